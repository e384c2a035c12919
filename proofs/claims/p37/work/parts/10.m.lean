noncomputable def f_X2_placeOf (v_p0_places : (Int → Int)) (x1 : Int) (x2 : Int) : Option (Int) := (ck (z_ix ((x1 * (7 : Int)) + x2) 49) (some (v_p0_places ((x1 * (7 : Int)) + x2))))
abbrev rm_X2_placeOf : Room := { frames := 0, cells := 0, slots := 0, locals := 0 }
theorem inX2_placeOf_X2 : ∀ w ∈ wsX20, w ∈ wsX2_placeOf := by first | exact fun w h => List.mem_cons_of_mem _ (List.mem_append_right _ h) | decide +kernel
theorem mwX2_placeOf_1 : Cond.fieldLink RX2 9 "LadleKings$Kitchen" "places" "[I" ∈ wsX2_placeOf := by first | exact List.mem_of_getElem? (i := 1) rfl | decide +kernel
set_option maxHeartbeats 8000000 in
set_option maxRecDepth 100000 in
theorem c_X2_placeOf (l : Launch) (D : va_G) (G : Nat → ClassId) (sz : Nat) (a_p0 : Nat) (a_p0_rules : Nat) (a_p0_state : Nat) (a_p0_places : Nat) (a_p0_holders : Nat) (a_p0_stirred : Nat) (v_p0_places : (Int → Int)) (x1 : Int) (x2 : Int) (r : Int) (hf : f_X2_placeOf v_p0_places x1 x2 = some r) : Met l yX2_placeOf wsX2_placeOf rm_X2_placeOf (pcG D G [.ref a_p0, .int (Int32.ofInt x1), .int (Int32.ofInt x2)] sz [(a_p0, .inr (2, [.ref a_p0_rules, .ref a_p0_state, .ref a_p0_places, .ref a_p0_holders, .ref a_p0_stirred])), (a_p0_places, .inl (G 1, 49, .inl (zA v_p0_places)))]) (qcI D G (Int32.ofInt r) [(a_p0, .inr (2, [.ref a_p0_rules, .ref a_p0_state, .ref a_p0_places, .ref a_p0_holders, .ref a_p0_stirred])), (a_p0_places, .inl (G 1, 49, .inl (zA v_p0_places)))] (va_A [(a_p0, .inr (2, [.ref a_p0_rules, .ref a_p0_state, .ref a_p0_places, .ref a_p0_holders, .ref a_p0_stirred])), (a_p0_places, .inl (G 1, 49, .inl (zA v_p0_places)))] sz)) 0 0 (va_A [(a_p0, .inr (2, [.ref a_p0_rules, .ref a_p0_state, .ref a_p0_places, .ref a_p0_holders, .ref a_p0_stirred])), (a_p0_places, .inl (G 1, 49, .inl (zA v_p0_places)))] sz) := by
  refine Met.ofW (cc := cX2_placeOf) (maxL := 3) (ret := (some .int)) (by decide) rfl ?_
  intro p e s m args below meth c s₁ B hml hv
  obtain ⟨rfl, hsz, hP, hK, hD0⟩ := hv
  have hx := B.exec
  have hb := B.bytes
  have hr := B.returns
  have hts := atoms_spec (ws := wsX2_placeOf) B.pre
  have hown : s.vm.findClass RX2 = some m.cls := findClass_of_methodNamed B.named
  have hlocks := B.notSynchronized
  subst hsz
  have hD := hD0.self (sz := s.heap.size)
  generalize hAe : va_A [(a_p0, .inr (2, [.ref a_p0_rules, .ref a_p0_state, .ref a_p0_places, .ref a_p0_holders, .ref a_p0_stirred])), (a_p0_places, .inl (G 1, 49, .inl (zA v_p0_places)))] s.heap.size = A at hD ⊢
  have hA : ∀ q : Nat, s.heap.size ≤ q → A q := fun q h => by rw [← hAe]; exact Or.inr h
  clear hAe hD0
  have hS : va_S A s.heap s.heap [] := va_S.rf
  have hl := lv_entry ([.ref a_p0, .int (Int32.ofInt x1), .int (Int32.ofInt x2)]) (n := 3) (Nat.le_of_ble_eq_true rfl)
  rw [lg_entry_eq]
  generalize (lg_sl ([.ref a_p0, .int (Int32.ofInt x1), .int (Int32.ofInt x2)]) ++ List.replicate (3 - (lg_sl ([.ref a_p0, .int (Int32.ofInt x1), .int (Int32.ofInt x2)])).length) Slot.unset).toArray = ls at hl ⊢
  have hl : lv_has ls 3 [(0, .ref a_p0), (1, .int (Int32.ofInt x1)), (2, .int (Int32.ofInt x2))] := hl
  refine W_nameQ (fun Q hQ => ?_)
  obtain ⟨H, hH⟩ : ∃ H, H = s.heap := ⟨_, rfl⟩
  replace hS : va_S A s.heap H [] := by rw [hH]; exact hS
  replace hP : va_P D vwCl [(a_p0, .inr (2, [.ref a_p0_rules, .ref a_p0_state, .ref a_p0_places, .ref a_p0_holders, .ref a_p0_stirred])), (a_p0_places, .inl (G 1, 49, .inl (zA v_p0_places)))] H := by rw [hH]; exact hP
  rw [← hH]
  clear hH
  unfold f_X2_placeOf at hf
  refine lv_aload_n hx hb dX2_placeOf_0 rfl (lv_at hl 0 rfl) ?_
  refine va_get (D := D) (ci := 2) (v := .ref a_p0_places) (C := RX2) (T := TX2) (N := 5) hx hb hts inX2_placeOf_X2 hown hK hP 0 rfl rfl 2 (by decide) (hts _ mwX2_placeOf_1) (fun _ h9 => h9) rfl dX2_placeOf_1 ?_
  refine lv_iload_n hx hb dX2_placeOf_4 rfl (lv_at hl 1 rfl) ?_
  refine lv_bipush (v := Int32.ofInt (7 : Int)) hx hb dX2_placeOf_5 (by decide) ?_
  refine lv_imul hx hb dX2_placeOf_7 (z_ci (Int32.ofInt_mul x1 (7 : Int)) ?_)
  refine lv_iload_n hx hb dX2_placeOf_8 rfl (lv_at hl 2 rfl) ?_
  refine lv_iadd hx hb dX2_placeOf_9 (z_ci (Int32.ofInt_add (x1 * (7 : Int)) x2) ?_)
  have hc := ck_c hf
  replace hf := ck_r hf
  refine va_iald hx hb hK hP 1 1 rfl rfl (z_ix_in hc) dX2_placeOf_10 (z_ci (z_ald v_p0_places hc) ?_)
  clear hc
  obtain rfl := ou1 hf
  rw [hQ]
  exact W.iret hx hb hr (fun t ht hW => ⟨⟨_, (), rfl, rfl, by rw [ht]; exact hP, va_K.moved hW.alike hK, hD⟩, hS.F ht⟩) hS.2.2 dX2_placeOf_11

noncomputable def f_X2_bowlOf (v_p0_places : (Int → Int)) (v_p0_stirred : (Int → Int)) (x1 : Int) (x2 : Int) : Option (Int) := (bd1 (f_X2_placeOf v_p0_places x1 x2) (fun (z1 : Int) => (ck (z_ix z1 7) (some (v_p0_stirred z1)))))
abbrev rm_X2_bowlOf : Room := { frames := 1, cells := 0, slots := 0, locals := 22 }
theorem inX2_bowlOf_X2 : ∀ w ∈ wsX20, w ∈ wsX2_bowlOf := by first | exact fun w h => List.mem_cons_of_mem _ (List.mem_append_right _ h) | decide +kernel
theorem mwX2_bowlOf_1 : Cond.fieldLink RX2 18 "LadleKings$Kitchen" "stirred" "[I" ∈ wsX2_bowlOf := by first | exact List.mem_of_getElem? (i := 1) rfl | decide +kernel
theorem hdV_yX2_placeOf_RX2 : yX2_placeOf.cls = RX2 ∧ yX2_placeOf.cls ≠ "java/lang/invoke/MethodHandle" ∧ yX2_placeOf.cls ≠ "java/lang/invoke/VarHandle" ∧ (parseMethodDescriptor yX2_placeOf.desc).map (fun d => d.parameters.length) = some 2 := by decide +kernel
set_option maxHeartbeats 8000000 in
set_option maxRecDepth 100000 in
theorem c_X2_bowlOf (l : Launch) (D : va_G) (G : Nat → ClassId) (sz : Nat) (a_p0 : Nat) (a_p0_rules : Nat) (a_p0_state : Nat) (a_p0_places : Nat) (a_p0_holders : Nat) (a_p0_stirred : Nat) (v_p0_places : (Int → Int)) (v_p0_stirred : (Int → Int)) (x1 : Int) (x2 : Int) (r : Int) (hf : f_X2_bowlOf v_p0_places v_p0_stirred x1 x2 = some r) : Met l yX2_bowlOf wsX2_bowlOf rm_X2_bowlOf (pcG D G [.ref a_p0, .int (Int32.ofInt x1), .int (Int32.ofInt x2)] sz [(a_p0, .inr (2, [.ref a_p0_rules, .ref a_p0_state, .ref a_p0_places, .ref a_p0_holders, .ref a_p0_stirred])), (a_p0_places, .inl (G 1, 49, .inl (zA v_p0_places))), (a_p0_stirred, .inl (G 1, 7, .inl (zA v_p0_stirred)))]) (qcI D G (Int32.ofInt r) [(a_p0, .inr (2, [.ref a_p0_rules, .ref a_p0_state, .ref a_p0_places, .ref a_p0_holders, .ref a_p0_stirred])), (a_p0_places, .inl (G 1, 49, .inl (zA v_p0_places))), (a_p0_stirred, .inl (G 1, 7, .inl (zA v_p0_stirred)))] (va_A [(a_p0, .inr (2, [.ref a_p0_rules, .ref a_p0_state, .ref a_p0_places, .ref a_p0_holders, .ref a_p0_stirred])), (a_p0_places, .inl (G 1, 49, .inl (zA v_p0_places))), (a_p0_stirred, .inl (G 1, 7, .inl (zA v_p0_stirred)))] sz)) 0 0 (va_A [(a_p0, .inr (2, [.ref a_p0_rules, .ref a_p0_state, .ref a_p0_places, .ref a_p0_holders, .ref a_p0_stirred])), (a_p0_places, .inl (G 1, 49, .inl (zA v_p0_places))), (a_p0_stirred, .inl (G 1, 7, .inl (zA v_p0_stirred)))] sz) := by
  refine Met.ofW (cc := cX2_bowlOf) (maxL := 3) (ret := (some .int)) (by decide) rfl ?_
  intro p e s m args below meth c s₁ B hml hv
  obtain ⟨rfl, hsz, hP, hK, hD0⟩ := hv
  have hx := B.exec
  have hb := B.bytes
  have hr := B.returns
  have hts := atoms_spec (ws := wsX2_bowlOf) B.pre
  have hown : s.vm.findClass RX2 = some m.cls := findClass_of_methodNamed B.named
  have hlocks := B.notSynchronized
  subst hsz
  have hD := hD0.self (sz := s.heap.size)
  generalize hAe : va_A [(a_p0, .inr (2, [.ref a_p0_rules, .ref a_p0_state, .ref a_p0_places, .ref a_p0_holders, .ref a_p0_stirred])), (a_p0_places, .inl (G 1, 49, .inl (zA v_p0_places))), (a_p0_stirred, .inl (G 1, 7, .inl (zA v_p0_stirred)))] s.heap.size = A at hD ⊢
  have hA : ∀ q : Nat, s.heap.size ≤ q → A q := fun q h => by rw [← hAe]; exact Or.inr h
  clear hAe hD0
  have hS : va_S A s.heap s.heap [] := va_S.rf
  have hl := lv_entry ([.ref a_p0, .int (Int32.ofInt x1), .int (Int32.ofInt x2)]) (n := 3) (Nat.le_of_ble_eq_true rfl)
  rw [lg_entry_eq]
  generalize (lg_sl ([.ref a_p0, .int (Int32.ofInt x1), .int (Int32.ofInt x2)]) ++ List.replicate (3 - (lg_sl ([.ref a_p0, .int (Int32.ofInt x1), .int (Int32.ofInt x2)])).length) Slot.unset).toArray = ls at hl ⊢
  have hl : lv_has ls 3 [(0, .ref a_p0), (1, .int (Int32.ofInt x1)), (2, .int (Int32.ofInt x2))] := hl
  refine W_nameQ (fun Q hQ => ?_)
  obtain ⟨H, hH⟩ : ∃ H, H = s.heap := ⟨_, rfl⟩
  replace hS : va_S A s.heap H [] := by rw [hH]; exact hS
  replace hP : va_P D vwCl [(a_p0, .inr (2, [.ref a_p0_rules, .ref a_p0_state, .ref a_p0_places, .ref a_p0_holders, .ref a_p0_stirred])), (a_p0_places, .inl (G 1, 49, .inl (zA v_p0_places))), (a_p0_stirred, .inl (G 1, 7, .inl (zA v_p0_stirred)))] H := by rw [hH]; exact hP
  rw [← hH]
  clear hH
  unfold f_X2_bowlOf at hf
  refine lv_aload_n hx hb dX2_bowlOf_0 rfl (lv_at hl 0 rfl) ?_
  refine va_get (D := D) (ci := 2) (v := .ref a_p0_stirred) (C := RX2) (T := TX2) (N := 5) hx hb hts inX2_bowlOf_X2 hown hK hP 0 rfl rfl 4 (by decide) (hts _ mwX2_bowlOf_1) (fun _ h9 => h9) rfl dX2_bowlOf_1 ?_
  refine lv_aload_n hx hb dX2_bowlOf_4 rfl (lv_at hl 0 rfl) ?_
  refine lv_iload_n hx hb dX2_bowlOf_5 rfl (lv_at hl 1 rfl) ?_
  refine lv_iload_n hx hb dX2_bowlOf_6 rfl (lv_at hl 2 rfl) ?_
  have hq := bd1_s hf
  clear hf
  obtain ⟨z1, hcall, hf⟩ := hq
  refine gnI (va_runV (As := [.int (Int32.ofInt x1), .int (Int32.ofInt x2)]) (rest := [.ref a_p0_stirred]) ⟨hx, hb, hml, hown, hts⟩ (c_X2_placeOf (l := l) (D := D) (G := G) (sz := H.size) (a_p0 := a_p0) (a_p0_rules := a_p0_rules) (a_p0_state := a_p0_state) (a_p0_places := a_p0_places) (a_p0_holders := a_p0_holders) (a_p0_stirred := a_p0_stirred) (v_p0_places := v_p0_places) (x1 := x1) (x2 := x2) (r := z1) (hf := hcall)) (cwV 2 hts gX2_bowlOf_X2_placeOf rfl rfl rfl hdV_yX2_placeOf_RX2 ⟨Nat.le_of_ble_eq_true rfl, Nat.le_of_ble_eq_true rfl⟩) (preG_V (ci := 2) (q := (RX2, TX2, 5)) (hP.sub [0, 1] rfl) (hD.sub [0, 1] rfl rfl) hK rfl rfl) rfl rfl hl.1 rfl (lv_room (Nat.le_of_ble_eq_true rfl)) dX2_bowlOf_7 ⟨Nat.le_of_ble_eq_true rfl, Nat.le_of_ble_eq_true rfl⟩) hP hD hS hA [0, 1] rfl (fun H locs hP hD hS => ?_)
  clear hcall
  have hc := ck_c hf
  replace hf := ck_r hf
  refine va_iald hx hb hK hP 2 1 rfl rfl (z_ix_in hc) dX2_bowlOf_10 (z_ci (z_ald v_p0_stirred hc) ?_)
  clear hc
  obtain rfl := ou1 hf
  rw [hQ]
  exact W.iret hx hb hr (fun t ht hW => ⟨⟨_, (), rfl, rfl, by rw [ht]; exact hP, va_K.moved hW.alike hK, hD⟩, hS.F ht⟩) hS.2.2 dX2_bowlOf_11

noncomputable def B_X0_whoRise_5 (i_p0_kitchen_rules_seats : Int) (v_p0_kitchen_places : (Int → Int)) (v_p0_kitchen_stirred : (Int → Int)) (x1 : Int) (x2 : Int) (again5 : Int → Int → Option (Int)) (z3 : Int) (z4 : Int) : Option (Int) := (ck (z_r32 z3) (ck (z_r32 i_p0_kitchen_rules_seats) (if i_p0_kitchen_rules_seats ≤ z3 then (some z4) else (bd1 (f_X2_bowlOf v_p0_kitchen_places v_p0_kitchen_stirred x1 z3) (fun (z8 : Int) => (bd1 (f_X2_bowlOf v_p0_kitchen_places v_p0_kitchen_stirred x2 z3) (fun (z9 : Int) => (ck (z_r32 z8) (ck (z_r32 z9) (if z8 ≤ z9 then (bnd (z3 + (1 : Int)) (fun (z12 : Int) => (again5 z12 z4))) else (bnd (z_or z4 (z_shl (1 : Int) z3)) (fun (z13 : Int) => (bnd (z3 + (1 : Int)) (fun (z14 : Int) => (again5 z14 z13)))))))))))))))
noncomputable def f_X0_whoRise (i_p0_kitchen_rules_seats : Int) (v_p0_kitchen_places : (Int → Int)) (v_p0_kitchen_stirred : (Int → Int)) (x1 : Int) (x2 : Int) : Option (Int) := (bnd (0 : Int) (fun (z1 : Int) => (bnd (0 : Int) (fun (z2 : Int) => (lq2 (B_X0_whoRise_5 i_p0_kitchen_rules_seats v_p0_kitchen_places v_p0_kitchen_stirred x1 x2) 1000 z2 z1)))))
abbrev rm_X0_whoRise : Room := { frames := 2, cells := 0, slots := 0, locals := 44 }
theorem inX0_whoRise_X0 : ∀ w ∈ wsX00, w ∈ wsX0_whoRise := by first | exact fun w h => List.mem_cons_of_mem _ (List.mem_append_left _ (List.mem_append_left _ (List.mem_append_right _ h))) | decide +kernel
theorem mwX0_whoRise_1 : Cond.fieldLink RX0 9 "LadleKings$Coups" "kitchen" "LLadleKings$Kitchen;" ∈ wsX0_whoRise := by first | exact List.mem_of_getElem? (i := 1) rfl | decide +kernel
theorem inX0_whoRise_X2 : ∀ w ∈ wsX20, w ∈ wsX0_whoRise := by first | exact fun w h => List.mem_cons_of_mem _ (List.mem_append_left _ (List.mem_append_right _ h)) | decide +kernel
theorem mwX0_whoRise_3 : Cond.fieldLink RX0 15 "LadleKings$Kitchen" "rules" "LLadleKings$Rules;" ∈ wsX0_whoRise := by first | exact List.mem_of_getElem? (i := 2) rfl | decide +kernel
theorem inX0_whoRise_X6 : ∀ w ∈ wsX60, w ∈ wsX0_whoRise := by first | exact fun w h => List.mem_cons_of_mem _ (List.mem_append_right _ h) | decide +kernel
theorem mwX0_whoRise_5 : Cond.fieldLink RX0 21 "LadleKings$Rules" "seats" "I" ∈ wsX0_whoRise := by first | exact List.mem_of_getElem? (i := 3) rfl | decide +kernel
theorem hdV_yX2_bowlOf_RX2 : yX2_bowlOf.cls = RX2 ∧ yX2_bowlOf.cls ≠ "java/lang/invoke/MethodHandle" ∧ yX2_bowlOf.cls ≠ "java/lang/invoke/VarHandle" ∧ (parseMethodDescriptor yX2_bowlOf.desc).map (fun d => d.parameters.length) = some 2 := by decide +kernel
set_option maxHeartbeats 8000000 in
set_option maxRecDepth 100000 in
theorem c_X0_whoRise (l : Launch) (D : va_G) (G : Nat → ClassId) (sz : Nat) (a_p0 : Nat) (a_p0_kitchen : Nat) (a_p0_kitchen_rules : Nat) (a_p0_kitchen_state : Nat) (a_p0_kitchen_places : Nat) (a_p0_kitchen_holders : Nat) (a_p0_kitchen_stirred : Nat) (a_p0_kitchen_rules_need : Nat) (a_p0_kitchen_rules_kind : Nat) (a_p0_kitchen_rules_first : Nat) (a_p0_kitchen_rules_second : Nat) (a_p0_kitchen_rules_after : Nat) (i_p0_kitchen_rules_seats : Int) (i_p0_kitchen_rules_stirs : Int) (v_p0_kitchen_places : (Int → Int)) (v_p0_kitchen_stirred : (Int → Int)) (x1 : Int) (x2 : Int) (r : Int) (hf : f_X0_whoRise i_p0_kitchen_rules_seats v_p0_kitchen_places v_p0_kitchen_stirred x1 x2 = some r) : Met l yX0_whoRise wsX0_whoRise rm_X0_whoRise (pcG D G [.ref a_p0, .int (Int32.ofInt x1), .int (Int32.ofInt x2)] sz [(a_p0, .inr (0, [.ref a_p0_kitchen])), (a_p0_kitchen, .inr (2, [.ref a_p0_kitchen_rules, .ref a_p0_kitchen_state, .ref a_p0_kitchen_places, .ref a_p0_kitchen_holders, .ref a_p0_kitchen_stirred])), (a_p0_kitchen_rules, .inr (6, [.int (Int32.ofInt i_p0_kitchen_rules_seats), .int (Int32.ofInt i_p0_kitchen_rules_stirs), .ref a_p0_kitchen_rules_need, .ref a_p0_kitchen_rules_kind, .ref a_p0_kitchen_rules_first, .ref a_p0_kitchen_rules_second, .ref a_p0_kitchen_rules_after])), (a_p0_kitchen_places, .inl (G 1, 49, .inl (zA v_p0_kitchen_places))), (a_p0_kitchen_stirred, .inl (G 1, 7, .inl (zA v_p0_kitchen_stirred)))]) (qcI D G (Int32.ofInt r) [(a_p0, .inr (0, [.ref a_p0_kitchen])), (a_p0_kitchen, .inr (2, [.ref a_p0_kitchen_rules, .ref a_p0_kitchen_state, .ref a_p0_kitchen_places, .ref a_p0_kitchen_holders, .ref a_p0_kitchen_stirred])), (a_p0_kitchen_rules, .inr (6, [.int (Int32.ofInt i_p0_kitchen_rules_seats), .int (Int32.ofInt i_p0_kitchen_rules_stirs), .ref a_p0_kitchen_rules_need, .ref a_p0_kitchen_rules_kind, .ref a_p0_kitchen_rules_first, .ref a_p0_kitchen_rules_second, .ref a_p0_kitchen_rules_after])), (a_p0_kitchen_places, .inl (G 1, 49, .inl (zA v_p0_kitchen_places))), (a_p0_kitchen_stirred, .inl (G 1, 7, .inl (zA v_p0_kitchen_stirred)))] (va_A [(a_p0, .inr (0, [.ref a_p0_kitchen])), (a_p0_kitchen, .inr (2, [.ref a_p0_kitchen_rules, .ref a_p0_kitchen_state, .ref a_p0_kitchen_places, .ref a_p0_kitchen_holders, .ref a_p0_kitchen_stirred])), (a_p0_kitchen_rules, .inr (6, [.int (Int32.ofInt i_p0_kitchen_rules_seats), .int (Int32.ofInt i_p0_kitchen_rules_stirs), .ref a_p0_kitchen_rules_need, .ref a_p0_kitchen_rules_kind, .ref a_p0_kitchen_rules_first, .ref a_p0_kitchen_rules_second, .ref a_p0_kitchen_rules_after])), (a_p0_kitchen_places, .inl (G 1, 49, .inl (zA v_p0_kitchen_places))), (a_p0_kitchen_stirred, .inl (G 1, 7, .inl (zA v_p0_kitchen_stirred)))] sz)) 0 0 (va_A [(a_p0, .inr (0, [.ref a_p0_kitchen])), (a_p0_kitchen, .inr (2, [.ref a_p0_kitchen_rules, .ref a_p0_kitchen_state, .ref a_p0_kitchen_places, .ref a_p0_kitchen_holders, .ref a_p0_kitchen_stirred])), (a_p0_kitchen_rules, .inr (6, [.int (Int32.ofInt i_p0_kitchen_rules_seats), .int (Int32.ofInt i_p0_kitchen_rules_stirs), .ref a_p0_kitchen_rules_need, .ref a_p0_kitchen_rules_kind, .ref a_p0_kitchen_rules_first, .ref a_p0_kitchen_rules_second, .ref a_p0_kitchen_rules_after])), (a_p0_kitchen_places, .inl (G 1, 49, .inl (zA v_p0_kitchen_places))), (a_p0_kitchen_stirred, .inl (G 1, 7, .inl (zA v_p0_kitchen_stirred)))] sz) := by
  refine Met.ofW (cc := cX0_whoRise) (maxL := 5) (ret := (some .int)) (by decide) rfl ?_
  intro p e s m args below meth c s₁ B hml hv
  obtain ⟨rfl, hsz, hP, hK, hD0⟩ := hv
  have hx := B.exec
  have hb := B.bytes
  have hr := B.returns
  have hts := atoms_spec (ws := wsX0_whoRise) B.pre
  have hown : s.vm.findClass RX0 = some m.cls := findClass_of_methodNamed B.named
  have hlocks := B.notSynchronized
  subst hsz
  have hD := hD0.self (sz := s.heap.size)
  generalize hAe : va_A [(a_p0, .inr (0, [.ref a_p0_kitchen])), (a_p0_kitchen, .inr (2, [.ref a_p0_kitchen_rules, .ref a_p0_kitchen_state, .ref a_p0_kitchen_places, .ref a_p0_kitchen_holders, .ref a_p0_kitchen_stirred])), (a_p0_kitchen_rules, .inr (6, [.int (Int32.ofInt i_p0_kitchen_rules_seats), .int (Int32.ofInt i_p0_kitchen_rules_stirs), .ref a_p0_kitchen_rules_need, .ref a_p0_kitchen_rules_kind, .ref a_p0_kitchen_rules_first, .ref a_p0_kitchen_rules_second, .ref a_p0_kitchen_rules_after])), (a_p0_kitchen_places, .inl (G 1, 49, .inl (zA v_p0_kitchen_places))), (a_p0_kitchen_stirred, .inl (G 1, 7, .inl (zA v_p0_kitchen_stirred)))] s.heap.size = A at hD ⊢
  have hA : ∀ q : Nat, s.heap.size ≤ q → A q := fun q h => by rw [← hAe]; exact Or.inr h
  clear hAe hD0
  have hS : va_S A s.heap s.heap [] := va_S.rf
  have hl := lv_entry ([.ref a_p0, .int (Int32.ofInt x1), .int (Int32.ofInt x2)]) (n := 5) (Nat.le_of_ble_eq_true rfl)
  rw [lg_entry_eq]
  generalize (lg_sl ([.ref a_p0, .int (Int32.ofInt x1), .int (Int32.ofInt x2)]) ++ List.replicate (5 - (lg_sl ([.ref a_p0, .int (Int32.ofInt x1), .int (Int32.ofInt x2)])).length) Slot.unset).toArray = ls at hl ⊢
  have hl : lv_has ls 5 [(0, .ref a_p0), (1, .int (Int32.ofInt x1)), (2, .int (Int32.ofInt x2))] := hl
  refine W_nameQ (fun Q hQ => ?_)
  obtain ⟨H, hH⟩ : ∃ H, H = s.heap := ⟨_, rfl⟩
  replace hS : va_S A s.heap H [] := by rw [hH]; exact hS
  replace hP : va_P D vwCl [(a_p0, .inr (0, [.ref a_p0_kitchen])), (a_p0_kitchen, .inr (2, [.ref a_p0_kitchen_rules, .ref a_p0_kitchen_state, .ref a_p0_kitchen_places, .ref a_p0_kitchen_holders, .ref a_p0_kitchen_stirred])), (a_p0_kitchen_rules, .inr (6, [.int (Int32.ofInt i_p0_kitchen_rules_seats), .int (Int32.ofInt i_p0_kitchen_rules_stirs), .ref a_p0_kitchen_rules_need, .ref a_p0_kitchen_rules_kind, .ref a_p0_kitchen_rules_first, .ref a_p0_kitchen_rules_second, .ref a_p0_kitchen_rules_after])), (a_p0_kitchen_places, .inl (G 1, 49, .inl (zA v_p0_kitchen_places))), (a_p0_kitchen_stirred, .inl (G 1, 7, .inl (zA v_p0_kitchen_stirred)))] H := by rw [hH]; exact hP
  rw [← hH]
  clear hH
  unfold f_X0_whoRise at hf
  refine lv_iconst (v := Int32.ofInt (0 : Int)) hx hb dX0_whoRise_0 (by decide) ?_
  refine z_topi (fun z1 ez => ?_)
  replace hf := bnd_s hf ez
  clear ez
  refine lv_istore_n (lv' := [(3, .int (Int32.ofInt z1)), (0, .ref a_p0), (1, .int (Int32.ofInt x1)), (2, .int (Int32.ofInt x2))]) hx hb dX0_whoRise_1 rfl hl (by decide) rfl (fun ls hl => ?_)
  refine lv_iconst (v := Int32.ofInt (0 : Int)) hx hb dX0_whoRise_2 (by decide) ?_
  refine z_topi (fun z2 ez => ?_)
  replace hf := bnd_s hf ez
  clear ez
  refine lv_istore (lv' := [(4, .int (Int32.ofInt z2)), (3, .int (Int32.ofInt z1)), (0, .ref a_p0), (1, .int (Int32.ofInt x1)), (2, .int (Int32.ofInt x2))]) hx hb dX0_whoRise_3 hl (by decide) rfl (fun ls hl => ?_)
  have hq := lq2_i hf
  clear hf
  obtain ⟨B5, eB5, NB5, hf⟩ := hq
  have hB5 : ∀ (n : Nat) (z3 : Int) (z4 : Int) (ls : Array Slot) (H : Heap) (locs : List Loc), lv_has ls 5 [(4, .int (Int32.ofInt z3)), (3, .int (Int32.ofInt z4)), (0, .ref a_p0), (1, .int (Int32.ofInt x1)), (2, .int (Int32.ofInt x2))] → va_P D vwCl [(a_p0, .inr (0, [.ref a_p0_kitchen])), (a_p0_kitchen, .inr (2, [.ref a_p0_kitchen_rules, .ref a_p0_kitchen_state, .ref a_p0_kitchen_places, .ref a_p0_kitchen_holders, .ref a_p0_kitchen_stirred])), (a_p0_kitchen_rules, .inr (6, [.int (Int32.ofInt i_p0_kitchen_rules_seats), .int (Int32.ofInt i_p0_kitchen_rules_stirs), .ref a_p0_kitchen_rules_need, .ref a_p0_kitchen_rules_kind, .ref a_p0_kitchen_rules_first, .ref a_p0_kitchen_rules_second, .ref a_p0_kitchen_rules_after])), (a_p0_kitchen_places, .inl (G 1, 49, .inl (zA v_p0_kitchen_places))), (a_p0_kitchen_stirred, .inl (G 1, 7, .inl (zA v_p0_kitchen_stirred)))] H → va_D A [(a_p0, .inr (0, [.ref a_p0_kitchen])), (a_p0_kitchen, .inr (2, [.ref a_p0_kitchen_rules, .ref a_p0_kitchen_state, .ref a_p0_kitchen_places, .ref a_p0_kitchen_holders, .ref a_p0_kitchen_stirred])), (a_p0_kitchen_rules, .inr (6, [.int (Int32.ofInt i_p0_kitchen_rules_seats), .int (Int32.ofInt i_p0_kitchen_rules_stirs), .ref a_p0_kitchen_rules_need, .ref a_p0_kitchen_rules_kind, .ref a_p0_kitchen_rules_first, .ref a_p0_kitchen_rules_second, .ref a_p0_kitchen_rules_after])), (a_p0_kitchen_places, .inl (G 1, 49, .inl (zA v_p0_kitchen_places))), (a_p0_kitchen_stirred, .inl (G 1, 7, .inl (zA v_p0_kitchen_stirred)))] → va_S A s.heap H locs → lq2 B5 n z3 z4 = some r → W p l e rm_X0_whoRise s m ([.ref a_p0, .int (Int32.ofInt x1), .int (Int32.ofInt x2)] : List Value).toArray below meth c H locs 0 0 Q (F0 m 5 ls []) := by
    clear hf hl hP hD hS
    intro n
    induction n with
    | zero =>
      intro z3 z4 ls H locs hl hP hD hS hf
      exact (lq2_0 hf).elim
    | succ n ih5 =>
      intro z3 z4 ls H locs hl hP hD hS hf
      replace hf := lq2_s eB5 hf
      unfold B_X0_whoRise_5 at hf
      refine lv_iload hx hb dX0_whoRise_5 (lv_at hl 0 rfl) ?_
      refine lv_aload_n hx hb dX0_whoRise_7 rfl (lv_at hl 2 rfl) ?_
      refine va_get (D := D) (ci := 0) (v := .ref a_p0_kitchen) (C := RX0) (T := TX0) (N := 1) hx hb hts inX0_whoRise_X0 hown hK hP 0 rfl rfl 0 (by decide) (hts _ mwX0_whoRise_1) (fun _ h9 => h9) rfl dX0_whoRise_8 ?_
      refine va_get (D := D) (ci := 2) (v := .ref a_p0_kitchen_rules) (C := RX2) (T := TX2) (N := 5) hx hb hts inX0_whoRise_X2 hown hK hP 1 rfl rfl 0 (by decide) (hts _ mwX0_whoRise_3) (fun _ h9 => h9) rfl dX0_whoRise_11 ?_
      refine va_get (D := D) (ci := 6) (v := .int (Int32.ofInt i_p0_kitchen_rules_seats)) (C := RX6) (T := TX6) (N := 7) hx hb hts inX0_whoRise_X6 hown hK hP 2 rfl rfl 0 (by decide) (hts _ mwX0_whoRise_5) (fun _ h9 => h9) rfl dX0_whoRise_14 ?_
      have hr5 := ck_c hf
      replace hf := ck_r hf
      have hr6 := ck_c hf
      replace hf := ck_r hf
      refine lv_icmp_ge (tgt := 56) hx hb dX0_whoRise_17 (by decide) (fun cc => ?_) (fun cc => ?_)
      ·
        replace hf := ite_t ((z_le hr6 hr5).mp cc) hf
        clear cc
        refine lv_iload_n hx hb dX0_whoRise_56 rfl (lv_at hl 1 rfl) ?_
        obtain rfl := ou1 hf
        rw [hQ]
        exact W.iret hx hb hr (fun t ht hW => ⟨⟨_, (), rfl, rfl, by rw [ht]; exact hP, va_K.moved hW.alike hK, hD⟩, hS.F ht⟩) hS.2.2 dX0_whoRise_57
      ·
        replace hf := ite_f (fun h9 => cc ((z_le hr6 hr5).mpr h9)) hf
        clear cc
        refine lv_aload_n hx hb dX0_whoRise_20 rfl (lv_at hl 2 rfl) ?_
        refine va_get (D := D) (ci := 0) (v := .ref a_p0_kitchen) (C := RX0) (T := TX0) (N := 1) hx hb hts inX0_whoRise_X0 hown hK hP 0 rfl rfl 0 (by decide) (hts _ mwX0_whoRise_1) (fun _ h9 => h9) rfl dX0_whoRise_21 ?_
        refine lv_iload_n hx hb dX0_whoRise_24 rfl (lv_at hl 3 rfl) ?_
        refine lv_iload hx hb dX0_whoRise_25 (lv_at hl 0 rfl) ?_
        have hq := bd1_s hf
        clear hf
        obtain ⟨z8, hcall, hf⟩ := hq
        refine gnI (va_runV (As := [.int (Int32.ofInt x1), .int (Int32.ofInt z3)]) (rest := []) ⟨hx, hb, hml, hown, hts⟩ (c_X2_bowlOf (l := l) (D := D) (G := G) (sz := H.size) (a_p0 := a_p0_kitchen) (a_p0_rules := a_p0_kitchen_rules) (a_p0_state := a_p0_kitchen_state) (a_p0_places := a_p0_kitchen_places) (a_p0_holders := a_p0_kitchen_holders) (a_p0_stirred := a_p0_kitchen_stirred) (v_p0_places := v_p0_kitchen_places) (v_p0_stirred := v_p0_kitchen_stirred) (x1 := x1) (x2 := z3) (r := z8) (hf := hcall)) (cwV 2 hts gX0_whoRise_X2_bowlOf rfl rfl rfl hdV_yX2_bowlOf_RX2 ⟨Nat.le_of_ble_eq_true rfl, Nat.le_of_ble_eq_true rfl⟩) (preG_V (ci := 2) (q := (RX2, TX2, 5)) (hP.sub [1, 3, 4] rfl) (hD.sub [1, 3, 4] rfl rfl) hK rfl rfl) rfl rfl hl.1 rfl (lv_room (Nat.le_of_ble_eq_true rfl)) dX0_whoRise_27 ⟨Nat.le_of_ble_eq_true rfl, Nat.le_of_ble_eq_true rfl⟩) hP hD hS hA [1, 3, 4] rfl (fun H locs hP hD hS => ?_)
        clear hcall
        refine lv_aload_n hx hb dX0_whoRise_30 rfl (lv_at hl 2 rfl) ?_
        refine va_get (D := D) (ci := 0) (v := .ref a_p0_kitchen) (C := RX0) (T := TX0) (N := 1) hx hb hts inX0_whoRise_X0 hown hK hP 0 rfl rfl 0 (by decide) (hts _ mwX0_whoRise_1) (fun _ h9 => h9) rfl dX0_whoRise_31 ?_
        refine lv_iload_n hx hb dX0_whoRise_34 rfl (lv_at hl 4 rfl) ?_
        refine lv_iload hx hb dX0_whoRise_35 (lv_at hl 0 rfl) ?_
        have hq := bd1_s hf
        clear hf
        obtain ⟨z9, hcall, hf⟩ := hq
        refine gnI (va_runV (As := [.int (Int32.ofInt x2), .int (Int32.ofInt z3)]) (rest := [.int (Int32.ofInt z8)]) ⟨hx, hb, hml, hown, hts⟩ (c_X2_bowlOf (l := l) (D := D) (G := G) (sz := H.size) (a_p0 := a_p0_kitchen) (a_p0_rules := a_p0_kitchen_rules) (a_p0_state := a_p0_kitchen_state) (a_p0_places := a_p0_kitchen_places) (a_p0_holders := a_p0_kitchen_holders) (a_p0_stirred := a_p0_kitchen_stirred) (v_p0_places := v_p0_kitchen_places) (v_p0_stirred := v_p0_kitchen_stirred) (x1 := x2) (x2 := z3) (r := z9) (hf := hcall)) (cwV 2 hts gX0_whoRise_X2_bowlOf rfl rfl rfl hdV_yX2_bowlOf_RX2 ⟨Nat.le_of_ble_eq_true rfl, Nat.le_of_ble_eq_true rfl⟩) (preG_V (ci := 2) (q := (RX2, TX2, 5)) (hP.sub [1, 3, 4] rfl) (hD.sub [1, 3, 4] rfl rfl) hK rfl rfl) rfl rfl hl.1 rfl (lv_room (Nat.le_of_ble_eq_true rfl)) dX0_whoRise_37 ⟨Nat.le_of_ble_eq_true rfl, Nat.le_of_ble_eq_true rfl⟩) hP hD hS hA [1, 3, 4] rfl (fun H locs hP hD hS => ?_)
        clear hcall
        have hr9 := ck_c hf
        replace hf := ck_r hf
        have hr10 := ck_c hf
        replace hf := ck_r hf
        refine lv_icmp_le (tgt := 50) hx hb dX0_whoRise_40 (by decide) (fun cc => ?_) (fun cc => ?_)
        ·
          replace hf := ite_t ((z_le hr9 hr10).mp cc) hf
          clear cc
          obtain ⟨z12, ez⟩ : ∃ y : Int, y = (z3 + (1 : Int)) := ⟨_, rfl⟩
          replace hf := bnd_s hf ez
          refine lv_iinc (v := Int32.ofInt z12) (lv' := [(4, .int (Int32.ofInt z12)), (3, .int (Int32.ofInt z4)), (0, .ref a_p0), (1, .int (Int32.ofInt x1)), (2, .int (Int32.ofInt x2))]) hx hb dX0_whoRise_50 hl (k := 0) rfl (by rw [ez]; exact (Int32.ofInt_add _ _).symm) (by decide) rfl (fun ls hl => ?_)
          clear ez
          refine lv_goto (tgt := 5) hx hb dX0_whoRise_53 (by decide) ?_
          exact ih5 _ _ _ _ _ (lv_sub hl [0, 1, 2, 3, 4] rfl) hP hD hS hf
        ·
          replace hf := ite_f (fun h9 => cc ((z_le hr9 hr10).mpr h9)) hf
          clear cc
          refine lv_iload_n hx hb dX0_whoRise_43 rfl (lv_at hl 1 rfl) ?_
          refine lv_iconst (v := Int32.ofInt (1 : Int)) hx hb dX0_whoRise_44 (by decide) ?_
          refine lv_iload hx hb dX0_whoRise_45 (lv_at hl 0 rfl) ?_
          refine lv_ishl hx hb dX0_whoRise_47 (z_ci (z_shl_e (1 : Int) z3) ?_)
          refine lv_ior hx hb dX0_whoRise_48 (z_ci (z_or_e z4 (z_shl (1 : Int) z3)) ?_)
          refine z_topi (fun z13 ez => ?_)
          replace hf := bnd_s hf ez
          clear ez
          refine lv_istore_n (lv' := [(3, .int (Int32.ofInt z13)), (4, .int (Int32.ofInt z3)), (0, .ref a_p0), (1, .int (Int32.ofInt x1)), (2, .int (Int32.ofInt x2))]) hx hb dX0_whoRise_49 rfl hl (by decide) rfl (fun ls hl => ?_)
          obtain ⟨z14, ez⟩ : ∃ y : Int, y = (z3 + (1 : Int)) := ⟨_, rfl⟩
          replace hf := bnd_s hf ez
          refine lv_iinc (v := Int32.ofInt z14) (lv' := [(4, .int (Int32.ofInt z14)), (3, .int (Int32.ofInt z13)), (0, .ref a_p0), (1, .int (Int32.ofInt x1)), (2, .int (Int32.ofInt x2))]) hx hb dX0_whoRise_50 hl (k := 1) rfl (by rw [ez]; exact (Int32.ofInt_add _ _).symm) (by decide) rfl (fun ls hl => ?_)
          clear ez
          refine lv_goto (tgt := 5) hx hb dX0_whoRise_53 (by decide) ?_
          exact ih5 _ _ _ _ _ (lv_sub hl [0, 1, 2, 3, 4] rfl) hP hD hS hf
  exact hB5 _ _ _ _ _ _ (lv_sub hl [0, 1, 2, 3, 4] rfl) hP hD hS hf

noncomputable def B_X0_isEnough_7 (i_p0_kitchen_rules_seats : Int) (J6 : Int → Int → Option (Int)) (v_p0_kitchen_state_spoons : (Int → Int)) (x1 : Int) (again7 : Int → Int → Int → Option (Int)) (z9 : Int) (z10 : Int) (z11 : Int) : Option (Int) := (ck (z_r32 z9) (ck (z_r32 i_p0_kitchen_rules_seats) (if i_p0_kitchen_rules_seats ≤ z9 then (J6 z11 z10) else (ck (z_ix z9 7) (bnd (z10 + (v_p0_kitchen_state_spoons z9)) (fun (z15 : Int) => (ck (z_r32 (z_and (z_shr x1 z9) (1 : Int))) (if (z_and (z_shr x1 z9) (1 : Int)) = (0 : Int) then (bnd (z9 + (1 : Int)) (fun (z17 : Int) => (again7 z17 z15 z11))) else (ck (z_ix z9 7) (bnd (z11 + (v_p0_kitchen_state_spoons z9)) (fun (z18 : Int) => (bnd (z9 + (1 : Int)) (fun (z19 : Int) => (again7 z19 z15 z18))))))))))))))
noncomputable def f_X0_isEnough (i_p0_kitchen_rules_seats : Int) (v_p0_kitchen_state_spoons : (Int → Int)) (x1 : Int) : Option (Int) := (bnd (0 : Int) (fun (z1 : Int) => (bnd (0 : Int) (fun (z2 : Int) => (bnd (0 : Int) (fun (z3 : Int) => (jn (fun (z4 : Int) (z5 : Int) => (ck (z_r32 (z4 * (2 : Int))) (ck (z_r32 z5) (if (z4 * (2 : Int)) ≤ z5 then (some (0 : Int)) else (some (1 : Int)))))) (fun (J6 : Int → Int → Option (Int)) => (lq3 (B_X0_isEnough_7 i_p0_kitchen_rules_seats J6 v_p0_kitchen_state_spoons x1) 1000 z3 z2 z1)))))))))
abbrev rm_X0_isEnough : Room := { frames := 0, cells := 0, slots := 0, locals := 0 }
theorem inX0_isEnough_X0 : ∀ w ∈ wsX00, w ∈ wsX0_isEnough := by first | exact fun w h => List.mem_cons_of_mem _ (List.mem_append_left _ (List.mem_append_left _ (List.mem_append_left _ (List.mem_append_right _ h)))) | decide +kernel
theorem mwX0_isEnough_1 : Cond.fieldLink RX0 9 "LadleKings$Coups" "kitchen" "LLadleKings$Kitchen;" ∈ wsX0_isEnough := by first | exact List.mem_of_getElem? (i := 1) rfl | decide +kernel
theorem inX0_isEnough_X2 : ∀ w ∈ wsX20, w ∈ wsX0_isEnough := by first | exact fun w h => List.mem_cons_of_mem _ (List.mem_append_left _ (List.mem_append_left _ (List.mem_append_right _ h))) | decide +kernel
theorem mwX0_isEnough_3 : Cond.fieldLink RX0 15 "LadleKings$Kitchen" "rules" "LLadleKings$Rules;" ∈ wsX0_isEnough := by first | exact List.mem_of_getElem? (i := 2) rfl | decide +kernel
theorem inX0_isEnough_X6 : ∀ w ∈ wsX60, w ∈ wsX0_isEnough := by first | exact fun w h => List.mem_cons_of_mem _ (List.mem_append_left _ (List.mem_append_right _ h)) | decide +kernel
theorem mwX0_isEnough_5 : Cond.fieldLink RX0 21 "LadleKings$Rules" "seats" "I" ∈ wsX0_isEnough := by first | exact List.mem_of_getElem? (i := 3) rfl | decide +kernel
theorem mwX0_isEnough_6 : Cond.fieldLink RX0 42 "LadleKings$Kitchen" "state" "LLadleKings$State;" ∈ wsX0_isEnough := by first | exact List.mem_of_getElem? (i := 4) rfl | decide +kernel
theorem inX0_isEnough_X8 : ∀ w ∈ wsX80, w ∈ wsX0_isEnough := by first | exact fun w h => List.mem_cons_of_mem _ (List.mem_append_right _ h) | decide +kernel
theorem mwX0_isEnough_8 : Cond.fieldLink RX0 46 "LadleKings$State" "spoons" "[I" ∈ wsX0_isEnough := by first | exact List.mem_of_getElem? (i := 5) rfl | decide +kernel
set_option maxHeartbeats 8000000 in
set_option maxRecDepth 100000 in
theorem c_X0_isEnough (l : Launch) (D : va_G) (G : Nat → ClassId) (sz : Nat) (a_p0 : Nat) (a_p0_kitchen : Nat) (a_p0_kitchen_rules : Nat) (a_p0_kitchen_state : Nat) (a_p0_kitchen_places : Nat) (a_p0_kitchen_holders : Nat) (a_p0_kitchen_stirred : Nat) (a_p0_kitchen_rules_need : Nat) (a_p0_kitchen_rules_kind : Nat) (a_p0_kitchen_rules_first : Nat) (a_p0_kitchen_rules_second : Nat) (a_p0_kitchen_rules_after : Nat) (a_p0_kitchen_state_pieces : Nat) (a_p0_kitchen_state_friends : Nat) (a_p0_kitchen_state_spoons : Nat) (a_p0_kitchen_state_eaten : Nat) (a_p0_kitchen_state_seen : Nat) (i_p0_kitchen_rules_seats : Int) (i_p0_kitchen_rules_stirs : Int) (i_p0_kitchen_state_seenDays : Int) (i_p0_kitchen_state_bone : Int) (i_p0_kitchen_state_king : Int) (i_p0_kitchen_state_days : Int) (v_p0_kitchen_state_spoons : (Int → Int)) (x1 : Int) (r : Int) (hf : f_X0_isEnough i_p0_kitchen_rules_seats v_p0_kitchen_state_spoons x1 = some r) : Met l yX0_isEnough wsX0_isEnough rm_X0_isEnough (pcG D G [.ref a_p0, .int (Int32.ofInt x1)] sz [(a_p0, .inr (0, [.ref a_p0_kitchen])), (a_p0_kitchen, .inr (2, [.ref a_p0_kitchen_rules, .ref a_p0_kitchen_state, .ref a_p0_kitchen_places, .ref a_p0_kitchen_holders, .ref a_p0_kitchen_stirred])), (a_p0_kitchen_rules, .inr (6, [.int (Int32.ofInt i_p0_kitchen_rules_seats), .int (Int32.ofInt i_p0_kitchen_rules_stirs), .ref a_p0_kitchen_rules_need, .ref a_p0_kitchen_rules_kind, .ref a_p0_kitchen_rules_first, .ref a_p0_kitchen_rules_second, .ref a_p0_kitchen_rules_after])), (a_p0_kitchen_state, .inr (8, [.ref a_p0_kitchen_state_pieces, .ref a_p0_kitchen_state_friends, .ref a_p0_kitchen_state_spoons, .ref a_p0_kitchen_state_eaten, .ref a_p0_kitchen_state_seen, .int (Int32.ofInt i_p0_kitchen_state_seenDays), .int (Int32.ofInt i_p0_kitchen_state_bone), .int (Int32.ofInt i_p0_kitchen_state_king), .int (Int32.ofInt i_p0_kitchen_state_days)])), (a_p0_kitchen_state_spoons, .inl (G 1, 7, .inl (zA v_p0_kitchen_state_spoons)))]) (qcI D G (Int32.ofInt r) [(a_p0, .inr (0, [.ref a_p0_kitchen])), (a_p0_kitchen, .inr (2, [.ref a_p0_kitchen_rules, .ref a_p0_kitchen_state, .ref a_p0_kitchen_places, .ref a_p0_kitchen_holders, .ref a_p0_kitchen_stirred])), (a_p0_kitchen_rules, .inr (6, [.int (Int32.ofInt i_p0_kitchen_rules_seats), .int (Int32.ofInt i_p0_kitchen_rules_stirs), .ref a_p0_kitchen_rules_need, .ref a_p0_kitchen_rules_kind, .ref a_p0_kitchen_rules_first, .ref a_p0_kitchen_rules_second, .ref a_p0_kitchen_rules_after])), (a_p0_kitchen_state, .inr (8, [.ref a_p0_kitchen_state_pieces, .ref a_p0_kitchen_state_friends, .ref a_p0_kitchen_state_spoons, .ref a_p0_kitchen_state_eaten, .ref a_p0_kitchen_state_seen, .int (Int32.ofInt i_p0_kitchen_state_seenDays), .int (Int32.ofInt i_p0_kitchen_state_bone), .int (Int32.ofInt i_p0_kitchen_state_king), .int (Int32.ofInt i_p0_kitchen_state_days)])), (a_p0_kitchen_state_spoons, .inl (G 1, 7, .inl (zA v_p0_kitchen_state_spoons)))] (va_A [(a_p0, .inr (0, [.ref a_p0_kitchen])), (a_p0_kitchen, .inr (2, [.ref a_p0_kitchen_rules, .ref a_p0_kitchen_state, .ref a_p0_kitchen_places, .ref a_p0_kitchen_holders, .ref a_p0_kitchen_stirred])), (a_p0_kitchen_rules, .inr (6, [.int (Int32.ofInt i_p0_kitchen_rules_seats), .int (Int32.ofInt i_p0_kitchen_rules_stirs), .ref a_p0_kitchen_rules_need, .ref a_p0_kitchen_rules_kind, .ref a_p0_kitchen_rules_first, .ref a_p0_kitchen_rules_second, .ref a_p0_kitchen_rules_after])), (a_p0_kitchen_state, .inr (8, [.ref a_p0_kitchen_state_pieces, .ref a_p0_kitchen_state_friends, .ref a_p0_kitchen_state_spoons, .ref a_p0_kitchen_state_eaten, .ref a_p0_kitchen_state_seen, .int (Int32.ofInt i_p0_kitchen_state_seenDays), .int (Int32.ofInt i_p0_kitchen_state_bone), .int (Int32.ofInt i_p0_kitchen_state_king), .int (Int32.ofInt i_p0_kitchen_state_days)])), (a_p0_kitchen_state_spoons, .inl (G 1, 7, .inl (zA v_p0_kitchen_state_spoons)))] sz)) 0 0 (va_A [(a_p0, .inr (0, [.ref a_p0_kitchen])), (a_p0_kitchen, .inr (2, [.ref a_p0_kitchen_rules, .ref a_p0_kitchen_state, .ref a_p0_kitchen_places, .ref a_p0_kitchen_holders, .ref a_p0_kitchen_stirred])), (a_p0_kitchen_rules, .inr (6, [.int (Int32.ofInt i_p0_kitchen_rules_seats), .int (Int32.ofInt i_p0_kitchen_rules_stirs), .ref a_p0_kitchen_rules_need, .ref a_p0_kitchen_rules_kind, .ref a_p0_kitchen_rules_first, .ref a_p0_kitchen_rules_second, .ref a_p0_kitchen_rules_after])), (a_p0_kitchen_state, .inr (8, [.ref a_p0_kitchen_state_pieces, .ref a_p0_kitchen_state_friends, .ref a_p0_kitchen_state_spoons, .ref a_p0_kitchen_state_eaten, .ref a_p0_kitchen_state_seen, .int (Int32.ofInt i_p0_kitchen_state_seenDays), .int (Int32.ofInt i_p0_kitchen_state_bone), .int (Int32.ofInt i_p0_kitchen_state_king), .int (Int32.ofInt i_p0_kitchen_state_days)])), (a_p0_kitchen_state_spoons, .inl (G 1, 7, .inl (zA v_p0_kitchen_state_spoons)))] sz) := by
  refine Met.ofW (cc := cX0_isEnough) (maxL := 5) (ret := (some .boolean)) (by decide) rfl ?_
  intro p e s m args below meth c s₁ B hml hv
  obtain ⟨rfl, hsz, hP, hK, hD0⟩ := hv
  have hx := B.exec
  have hb := B.bytes
  have hr := B.returns
  have hts := atoms_spec (ws := wsX0_isEnough) B.pre
  have hown : s.vm.findClass RX0 = some m.cls := findClass_of_methodNamed B.named
  have hlocks := B.notSynchronized
  subst hsz
  have hD := hD0.self (sz := s.heap.size)
  generalize hAe : va_A [(a_p0, .inr (0, [.ref a_p0_kitchen])), (a_p0_kitchen, .inr (2, [.ref a_p0_kitchen_rules, .ref a_p0_kitchen_state, .ref a_p0_kitchen_places, .ref a_p0_kitchen_holders, .ref a_p0_kitchen_stirred])), (a_p0_kitchen_rules, .inr (6, [.int (Int32.ofInt i_p0_kitchen_rules_seats), .int (Int32.ofInt i_p0_kitchen_rules_stirs), .ref a_p0_kitchen_rules_need, .ref a_p0_kitchen_rules_kind, .ref a_p0_kitchen_rules_first, .ref a_p0_kitchen_rules_second, .ref a_p0_kitchen_rules_after])), (a_p0_kitchen_state, .inr (8, [.ref a_p0_kitchen_state_pieces, .ref a_p0_kitchen_state_friends, .ref a_p0_kitchen_state_spoons, .ref a_p0_kitchen_state_eaten, .ref a_p0_kitchen_state_seen, .int (Int32.ofInt i_p0_kitchen_state_seenDays), .int (Int32.ofInt i_p0_kitchen_state_bone), .int (Int32.ofInt i_p0_kitchen_state_king), .int (Int32.ofInt i_p0_kitchen_state_days)])), (a_p0_kitchen_state_spoons, .inl (G 1, 7, .inl (zA v_p0_kitchen_state_spoons)))] s.heap.size = A at hD ⊢
  have hA : ∀ q : Nat, s.heap.size ≤ q → A q := fun q h => by rw [← hAe]; exact Or.inr h
  clear hAe hD0
  have hS : va_S A s.heap s.heap [] := va_S.rf
  have hl := lv_entry ([.ref a_p0, .int (Int32.ofInt x1)]) (n := 5) (Nat.le_of_ble_eq_true rfl)
  rw [lg_entry_eq]
  generalize (lg_sl ([.ref a_p0, .int (Int32.ofInt x1)]) ++ List.replicate (5 - (lg_sl ([.ref a_p0, .int (Int32.ofInt x1)])).length) Slot.unset).toArray = ls at hl ⊢
  have hl : lv_has ls 5 [(0, .ref a_p0), (1, .int (Int32.ofInt x1))] := hl
  refine W_nameQ (fun Q hQ => ?_)
  obtain ⟨H, hH⟩ : ∃ H, H = s.heap := ⟨_, rfl⟩
  replace hS : va_S A s.heap H [] := by rw [hH]; exact hS
  replace hP : va_P D vwCl [(a_p0, .inr (0, [.ref a_p0_kitchen])), (a_p0_kitchen, .inr (2, [.ref a_p0_kitchen_rules, .ref a_p0_kitchen_state, .ref a_p0_kitchen_places, .ref a_p0_kitchen_holders, .ref a_p0_kitchen_stirred])), (a_p0_kitchen_rules, .inr (6, [.int (Int32.ofInt i_p0_kitchen_rules_seats), .int (Int32.ofInt i_p0_kitchen_rules_stirs), .ref a_p0_kitchen_rules_need, .ref a_p0_kitchen_rules_kind, .ref a_p0_kitchen_rules_first, .ref a_p0_kitchen_rules_second, .ref a_p0_kitchen_rules_after])), (a_p0_kitchen_state, .inr (8, [.ref a_p0_kitchen_state_pieces, .ref a_p0_kitchen_state_friends, .ref a_p0_kitchen_state_spoons, .ref a_p0_kitchen_state_eaten, .ref a_p0_kitchen_state_seen, .int (Int32.ofInt i_p0_kitchen_state_seenDays), .int (Int32.ofInt i_p0_kitchen_state_bone), .int (Int32.ofInt i_p0_kitchen_state_king), .int (Int32.ofInt i_p0_kitchen_state_days)])), (a_p0_kitchen_state_spoons, .inl (G 1, 7, .inl (zA v_p0_kitchen_state_spoons)))] H := by rw [hH]; exact hP
  rw [← hH]
  clear hH
  unfold f_X0_isEnough at hf
  refine lv_iconst (v := Int32.ofInt (0 : Int)) hx hb dX0_isEnough_0 (by decide) ?_
  refine z_topi (fun z1 ez => ?_)
  replace hf := bnd_s hf ez
  clear ez
  refine lv_istore_n (lv' := [(2, .int (Int32.ofInt z1)), (0, .ref a_p0), (1, .int (Int32.ofInt x1))]) hx hb dX0_isEnough_1 rfl hl (by decide) rfl (fun ls hl => ?_)
  refine lv_iconst (v := Int32.ofInt (0 : Int)) hx hb dX0_isEnough_2 (by decide) ?_
  refine z_topi (fun z2 ez => ?_)
  replace hf := bnd_s hf ez
  clear ez
  refine lv_istore_n (lv' := [(3, .int (Int32.ofInt z2)), (2, .int (Int32.ofInt z1)), (0, .ref a_p0), (1, .int (Int32.ofInt x1))]) hx hb dX0_isEnough_3 rfl hl (by decide) rfl (fun ls hl => ?_)
  refine lv_iconst (v := Int32.ofInt (0 : Int)) hx hb dX0_isEnough_4 (by decide) ?_
  refine z_topi (fun z3 ez => ?_)
  replace hf := bnd_s hf ez
  clear ez
  refine lv_istore (lv' := [(4, .int (Int32.ofInt z3)), (3, .int (Int32.ofInt z2)), (2, .int (Int32.ofInt z1)), (0, .ref a_p0), (1, .int (Int32.ofInt x1))]) hx hb dX0_isEnough_5 hl (by decide) rfl (fun ls hl => ?_)
  have hq := jn_i hf
  clear hf
  obtain ⟨J6, eJ6, hf⟩ := hq
  have hJ6 : ∀ (z4 : Int) (z5 : Int) (ls : Array Slot) (H : Heap) (locs : List Loc), lv_has ls 5 [(3, .int (Int32.ofInt z5)), (2, .int (Int32.ofInt z4))] → va_P D vwCl [(a_p0, .inr (0, [.ref a_p0_kitchen])), (a_p0_kitchen, .inr (2, [.ref a_p0_kitchen_rules, .ref a_p0_kitchen_state, .ref a_p0_kitchen_places, .ref a_p0_kitchen_holders, .ref a_p0_kitchen_stirred])), (a_p0_kitchen_rules, .inr (6, [.int (Int32.ofInt i_p0_kitchen_rules_seats), .int (Int32.ofInt i_p0_kitchen_rules_stirs), .ref a_p0_kitchen_rules_need, .ref a_p0_kitchen_rules_kind, .ref a_p0_kitchen_rules_first, .ref a_p0_kitchen_rules_second, .ref a_p0_kitchen_rules_after])), (a_p0_kitchen_state, .inr (8, [.ref a_p0_kitchen_state_pieces, .ref a_p0_kitchen_state_friends, .ref a_p0_kitchen_state_spoons, .ref a_p0_kitchen_state_eaten, .ref a_p0_kitchen_state_seen, .int (Int32.ofInt i_p0_kitchen_state_seenDays), .int (Int32.ofInt i_p0_kitchen_state_bone), .int (Int32.ofInt i_p0_kitchen_state_king), .int (Int32.ofInt i_p0_kitchen_state_days)])), (a_p0_kitchen_state_spoons, .inl (G 1, 7, .inl (zA v_p0_kitchen_state_spoons)))] H → va_D A [(a_p0, .inr (0, [.ref a_p0_kitchen])), (a_p0_kitchen, .inr (2, [.ref a_p0_kitchen_rules, .ref a_p0_kitchen_state, .ref a_p0_kitchen_places, .ref a_p0_kitchen_holders, .ref a_p0_kitchen_stirred])), (a_p0_kitchen_rules, .inr (6, [.int (Int32.ofInt i_p0_kitchen_rules_seats), .int (Int32.ofInt i_p0_kitchen_rules_stirs), .ref a_p0_kitchen_rules_need, .ref a_p0_kitchen_rules_kind, .ref a_p0_kitchen_rules_first, .ref a_p0_kitchen_rules_second, .ref a_p0_kitchen_rules_after])), (a_p0_kitchen_state, .inr (8, [.ref a_p0_kitchen_state_pieces, .ref a_p0_kitchen_state_friends, .ref a_p0_kitchen_state_spoons, .ref a_p0_kitchen_state_eaten, .ref a_p0_kitchen_state_seen, .int (Int32.ofInt i_p0_kitchen_state_seenDays), .int (Int32.ofInt i_p0_kitchen_state_bone), .int (Int32.ofInt i_p0_kitchen_state_king), .int (Int32.ofInt i_p0_kitchen_state_days)])), (a_p0_kitchen_state_spoons, .inl (G 1, 7, .inl (zA v_p0_kitchen_state_spoons)))] → va_S A s.heap H locs → J6 z4 z5 = some r → W p l e rm_X0_isEnough s m ([.ref a_p0, .int (Int32.ofInt x1)] : List Value).toArray below meth c H locs 0 0 Q (F0 m 69 ls []) := by
    clear hf hl hP hD hS
    intro z4 z5 ls H locs hl hP hD hS hf
    replace hf := jn2_s eJ6 hf
    refine lv_iload_n hx hb dX0_isEnough_69 rfl (lv_at hl 1 rfl) ?_
    refine lv_iconst (v := Int32.ofInt (2 : Int)) hx hb dX0_isEnough_70 (by decide) ?_
    refine lv_imul hx hb dX0_isEnough_71 (z_ci (Int32.ofInt_mul z4 (2 : Int)) ?_)
    refine lv_iload_n hx hb dX0_isEnough_72 rfl (lv_at hl 0 rfl) ?_
    have hr6 := ck_c hf
    replace hf := ck_r hf
    have hr7 := ck_c hf
    replace hf := ck_r hf
    refine lv_icmp_le (tgt := 80) hx hb dX0_isEnough_73 (by decide) (fun cc => ?_) (fun cc => ?_)
    ·
      replace hf := ite_t ((z_le hr6 hr7).mp cc) hf
      clear cc
      refine lv_iconst (v := Int32.ofInt (0 : Int)) hx hb dX0_isEnough_80 (by decide) ?_
      obtain rfl := ou1 hf
      rw [hQ]
      exact W.zret hx hb hr rfl (fun t ht hW => ⟨⟨_, (), rfl, rfl, by rw [ht]; exact hP, va_K.moved hW.alike hK, hD⟩, hS.F ht⟩) hS.2.2 dX0_isEnough_81
    ·
      replace hf := ite_f (fun h9 => cc ((z_le hr6 hr7).mpr h9)) hf
      clear cc
      refine lv_iconst (v := Int32.ofInt (1 : Int)) hx hb dX0_isEnough_76 (by decide) ?_
      refine lv_goto (tgt := 81) hx hb dX0_isEnough_77 (by decide) ?_
      obtain rfl := ou1 hf
      rw [hQ]
      exact W.zret hx hb hr rfl (fun t ht hW => ⟨⟨_, (), rfl, rfl, by rw [ht]; exact hP, va_K.moved hW.alike hK, hD⟩, hS.F ht⟩) hS.2.2 dX0_isEnough_81
  have hq := lq3_i hf
  clear hf
  obtain ⟨B12, eB12, NB12, hf⟩ := hq
  have hB12 : ∀ (n : Nat) (z9 : Int) (z10 : Int) (z11 : Int) (ls : Array Slot) (H : Heap) (locs : List Loc), lv_has ls 5 [(4, .int (Int32.ofInt z9)), (3, .int (Int32.ofInt z10)), (2, .int (Int32.ofInt z11)), (0, .ref a_p0), (1, .int (Int32.ofInt x1))] → va_P D vwCl [(a_p0, .inr (0, [.ref a_p0_kitchen])), (a_p0_kitchen, .inr (2, [.ref a_p0_kitchen_rules, .ref a_p0_kitchen_state, .ref a_p0_kitchen_places, .ref a_p0_kitchen_holders, .ref a_p0_kitchen_stirred])), (a_p0_kitchen_rules, .inr (6, [.int (Int32.ofInt i_p0_kitchen_rules_seats), .int (Int32.ofInt i_p0_kitchen_rules_stirs), .ref a_p0_kitchen_rules_need, .ref a_p0_kitchen_rules_kind, .ref a_p0_kitchen_rules_first, .ref a_p0_kitchen_rules_second, .ref a_p0_kitchen_rules_after])), (a_p0_kitchen_state, .inr (8, [.ref a_p0_kitchen_state_pieces, .ref a_p0_kitchen_state_friends, .ref a_p0_kitchen_state_spoons, .ref a_p0_kitchen_state_eaten, .ref a_p0_kitchen_state_seen, .int (Int32.ofInt i_p0_kitchen_state_seenDays), .int (Int32.ofInt i_p0_kitchen_state_bone), .int (Int32.ofInt i_p0_kitchen_state_king), .int (Int32.ofInt i_p0_kitchen_state_days)])), (a_p0_kitchen_state_spoons, .inl (G 1, 7, .inl (zA v_p0_kitchen_state_spoons)))] H → va_D A [(a_p0, .inr (0, [.ref a_p0_kitchen])), (a_p0_kitchen, .inr (2, [.ref a_p0_kitchen_rules, .ref a_p0_kitchen_state, .ref a_p0_kitchen_places, .ref a_p0_kitchen_holders, .ref a_p0_kitchen_stirred])), (a_p0_kitchen_rules, .inr (6, [.int (Int32.ofInt i_p0_kitchen_rules_seats), .int (Int32.ofInt i_p0_kitchen_rules_stirs), .ref a_p0_kitchen_rules_need, .ref a_p0_kitchen_rules_kind, .ref a_p0_kitchen_rules_first, .ref a_p0_kitchen_rules_second, .ref a_p0_kitchen_rules_after])), (a_p0_kitchen_state, .inr (8, [.ref a_p0_kitchen_state_pieces, .ref a_p0_kitchen_state_friends, .ref a_p0_kitchen_state_spoons, .ref a_p0_kitchen_state_eaten, .ref a_p0_kitchen_state_seen, .int (Int32.ofInt i_p0_kitchen_state_seenDays), .int (Int32.ofInt i_p0_kitchen_state_bone), .int (Int32.ofInt i_p0_kitchen_state_king), .int (Int32.ofInt i_p0_kitchen_state_days)])), (a_p0_kitchen_state_spoons, .inl (G 1, 7, .inl (zA v_p0_kitchen_state_spoons)))] → va_S A s.heap H locs → lq3 B12 n z9 z10 z11 = some r → W p l e rm_X0_isEnough s m ([.ref a_p0, .int (Int32.ofInt x1)] : List Value).toArray below meth c H locs 0 0 Q (F0 m 7 ls []) := by
    clear hf hl hP hD hS
    intro n
    induction n with
    | zero =>
      intro z9 z10 z11 ls H locs hl hP hD hS hf
      exact (lq3_0 hf).elim
    | succ n ih7 =>
      intro z9 z10 z11 ls H locs hl hP hD hS hf
      replace hf := lq3_s eB12 hf
      unfold B_X0_isEnough_7 at hf
      refine lv_iload hx hb dX0_isEnough_7 (lv_at hl 0 rfl) ?_
      refine lv_aload_n hx hb dX0_isEnough_9 rfl (lv_at hl 3 rfl) ?_
      refine va_get (D := D) (ci := 0) (v := .ref a_p0_kitchen) (C := RX0) (T := TX0) (N := 1) hx hb hts inX0_isEnough_X0 hown hK hP 0 rfl rfl 0 (by decide) (hts _ mwX0_isEnough_1) (fun _ h9 => h9) rfl dX0_isEnough_10 ?_
      refine va_get (D := D) (ci := 2) (v := .ref a_p0_kitchen_rules) (C := RX2) (T := TX2) (N := 5) hx hb hts inX0_isEnough_X2 hown hK hP 1 rfl rfl 0 (by decide) (hts _ mwX0_isEnough_3) (fun _ h9 => h9) rfl dX0_isEnough_13 ?_
      refine va_get (D := D) (ci := 6) (v := .int (Int32.ofInt i_p0_kitchen_rules_seats)) (C := RX6) (T := TX6) (N := 7) hx hb hts inX0_isEnough_X6 hown hK hP 2 rfl rfl 0 (by decide) (hts _ mwX0_isEnough_5) (fun _ h9 => h9) rfl dX0_isEnough_16 ?_
      have hr12 := ck_c hf
      replace hf := ck_r hf
      have hr13 := ck_c hf
      replace hf := ck_r hf
      refine lv_icmp_ge (tgt := 69) hx hb dX0_isEnough_19 (by decide) (fun cc => ?_) (fun cc => ?_)
      ·
        replace hf := ite_t ((z_le hr13 hr12).mp cc) hf
        clear cc
        exact hJ6 _ _ _ _ _ (lv_sub hl [1, 2] rfl) hP hD hS hf
      ·
        replace hf := ite_f (fun h9 => cc ((z_le hr13 hr12).mpr h9)) hf
        clear cc
        refine lv_iload_n hx hb dX0_isEnough_22 rfl (lv_at hl 1 rfl) ?_
        refine lv_aload_n hx hb dX0_isEnough_23 rfl (lv_at hl 3 rfl) ?_
        refine va_get (D := D) (ci := 0) (v := .ref a_p0_kitchen) (C := RX0) (T := TX0) (N := 1) hx hb hts inX0_isEnough_X0 hown hK hP 0 rfl rfl 0 (by decide) (hts _ mwX0_isEnough_1) (fun _ h9 => h9) rfl dX0_isEnough_24 ?_
        refine va_get (D := D) (ci := 2) (v := .ref a_p0_kitchen_state) (C := RX2) (T := TX2) (N := 5) hx hb hts inX0_isEnough_X2 hown hK hP 1 rfl rfl 1 (by decide) (hts _ mwX0_isEnough_6) (fun _ h9 => h9) rfl dX0_isEnough_27 ?_
        refine va_get (D := D) (ci := 8) (v := .ref a_p0_kitchen_state_spoons) (C := RX8) (T := TX8) (N := 9) hx hb hts inX0_isEnough_X8 hown hK hP 3 rfl rfl 2 (by decide) (hts _ mwX0_isEnough_8) (fun _ h9 => h9) rfl dX0_isEnough_30 ?_
        refine lv_iload hx hb dX0_isEnough_33 (lv_at hl 0 rfl) ?_
        have hc := ck_c hf
        replace hf := ck_r hf
        refine va_iald hx hb hK hP 4 1 rfl rfl (z_ix_in hc) dX0_isEnough_35 (z_ci (z_ald v_p0_kitchen_state_spoons hc) ?_)
        clear hc
        refine lv_iadd hx hb dX0_isEnough_36 (z_ci (Int32.ofInt_add z10 (v_p0_kitchen_state_spoons z9)) ?_)
        refine z_topi (fun z15 ez => ?_)
        replace hf := bnd_s hf ez
        clear ez
        refine lv_istore_n (lv' := [(3, .int (Int32.ofInt z15)), (4, .int (Int32.ofInt z9)), (2, .int (Int32.ofInt z11)), (0, .ref a_p0), (1, .int (Int32.ofInt x1))]) hx hb dX0_isEnough_37 rfl hl (by decide) rfl (fun ls hl => ?_)
        refine lv_iload_n hx hb dX0_isEnough_38 rfl (lv_at hl 4 rfl) ?_
        refine lv_iload hx hb dX0_isEnough_39 (lv_at hl 1 rfl) ?_
        refine lv_ishr hx hb dX0_isEnough_41 (z_ci (z_shr_e x1 z9) ?_)
        refine lv_iconst (v := Int32.ofInt (1 : Int)) hx hb dX0_isEnough_42 (by decide) ?_
        refine lv_iand hx hb dX0_isEnough_43 (z_ci (z_and_e (z_shr x1 z9) (1 : Int)) ?_)
        have hr15 := ck_c hf
        replace hf := ck_r hf
        refine lv_if_eq (tgt := 63) hx hb dX0_isEnough_44 (by decide) (fun cc => ?_) (fun cc => ?_)
        ·
          replace hf := ite_t ((z_eq0 hr15).mp cc) hf
          clear cc
          obtain ⟨z17, ez⟩ : ∃ y : Int, y = (z9 + (1 : Int)) := ⟨_, rfl⟩
          replace hf := bnd_s hf ez
          refine lv_iinc (v := Int32.ofInt z17) (lv' := [(4, .int (Int32.ofInt z17)), (3, .int (Int32.ofInt z15)), (2, .int (Int32.ofInt z11)), (0, .ref a_p0), (1, .int (Int32.ofInt x1))]) hx hb dX0_isEnough_63 hl (k := 1) rfl (by rw [ez]; exact (Int32.ofInt_add _ _).symm) (by decide) rfl (fun ls hl => ?_)
          clear ez
          refine lv_goto (tgt := 7) hx hb dX0_isEnough_66 (by decide) ?_
          exact ih7 _ _ _ _ _ _ (lv_sub hl [0, 1, 2, 3, 4] rfl) hP hD hS hf
        ·
          replace hf := ite_f (fun h9 => cc ((z_eq0 hr15).mpr h9)) hf
          clear cc
          refine lv_iload_n hx hb dX0_isEnough_47 rfl (lv_at hl 2 rfl) ?_
          refine lv_aload_n hx hb dX0_isEnough_48 rfl (lv_at hl 3 rfl) ?_
          refine va_get (D := D) (ci := 0) (v := .ref a_p0_kitchen) (C := RX0) (T := TX0) (N := 1) hx hb hts inX0_isEnough_X0 hown hK hP 0 rfl rfl 0 (by decide) (hts _ mwX0_isEnough_1) (fun _ h9 => h9) rfl dX0_isEnough_49 ?_
          refine va_get (D := D) (ci := 2) (v := .ref a_p0_kitchen_state) (C := RX2) (T := TX2) (N := 5) hx hb hts inX0_isEnough_X2 hown hK hP 1 rfl rfl 1 (by decide) (hts _ mwX0_isEnough_6) (fun _ h9 => h9) rfl dX0_isEnough_52 ?_
          refine va_get (D := D) (ci := 8) (v := .ref a_p0_kitchen_state_spoons) (C := RX8) (T := TX8) (N := 9) hx hb hts inX0_isEnough_X8 hown hK hP 3 rfl rfl 2 (by decide) (hts _ mwX0_isEnough_8) (fun _ h9 => h9) rfl dX0_isEnough_55 ?_
          refine lv_iload hx hb dX0_isEnough_58 (lv_at hl 1 rfl) ?_
          have hc := ck_c hf
          replace hf := ck_r hf
          refine va_iald hx hb hK hP 4 1 rfl rfl (z_ix_in hc) dX0_isEnough_60 (z_ci (z_ald v_p0_kitchen_state_spoons hc) ?_)
          clear hc
          refine lv_iadd hx hb dX0_isEnough_61 (z_ci (Int32.ofInt_add z11 (v_p0_kitchen_state_spoons z9)) ?_)
          refine z_topi (fun z18 ez => ?_)
          replace hf := bnd_s hf ez
          clear ez
          refine lv_istore_n (lv' := [(2, .int (Int32.ofInt z18)), (3, .int (Int32.ofInt z15)), (4, .int (Int32.ofInt z9)), (0, .ref a_p0), (1, .int (Int32.ofInt x1))]) hx hb dX0_isEnough_62 rfl hl (by decide) rfl (fun ls hl => ?_)
          obtain ⟨z19, ez⟩ : ∃ y : Int, y = (z9 + (1 : Int)) := ⟨_, rfl⟩
          replace hf := bnd_s hf ez
          refine lv_iinc (v := Int32.ofInt z19) (lv' := [(4, .int (Int32.ofInt z19)), (2, .int (Int32.ofInt z18)), (3, .int (Int32.ofInt z15)), (0, .ref a_p0), (1, .int (Int32.ofInt x1))]) hx hb dX0_isEnough_63 hl (k := 2) rfl (by rw [ez]; exact (Int32.ofInt_add _ _).symm) (by decide) rfl (fun ls hl => ?_)
          clear ez
          refine lv_goto (tgt := 7) hx hb dX0_isEnough_66 (by decide) ?_
          exact ih7 _ _ _ _ _ _ (lv_sub hl [0, 2, 1, 3, 4] rfl) hP hD hS hf
  exact hB12 _ _ _ _ _ _ _ (lv_sub hl [0, 1, 2, 3, 4] rfl) hP hD hS hf

noncomputable def f_X0_canLead (i_p0_kitchen_rules_seats : Int) (v_p0_kitchen_state_spoons : (Int → Int)) (v_p0_kitchen_places : (Int → Int)) (v_p0_kitchen_stirred : (Int → Int)) (x1 : Int) (x2 : Int) : Option (Int) := (bd1 (f_X0_whoRise i_p0_kitchen_rules_seats v_p0_kitchen_places v_p0_kitchen_stirred x1 x2) (fun (z1 : Int) => (bnd z1 (fun (z2 : Int) => (ck (z_r32 (z_and (z_shr z2 x1) (1 : Int))) (if (z_and (z_shr z2 x1) (1 : Int)) = (0 : Int) then (some (0 : Int)) else (bd1 (f_X0_isEnough i_p0_kitchen_rules_seats v_p0_kitchen_state_spoons z2) (fun (z4 : Int) => (ck (z_r32 z4) (if z4 = (0 : Int) then (some (0 : Int)) else (some (1 : Int))))))))))))
abbrev rm_X0_canLead : Room := { frames := 3, cells := 0, slots := 0, locals := 68 }
theorem hdV_yX0_whoRise_RX0 : yX0_whoRise.cls = RX0 ∧ yX0_whoRise.cls ≠ "java/lang/invoke/MethodHandle" ∧ yX0_whoRise.cls ≠ "java/lang/invoke/VarHandle" ∧ (parseMethodDescriptor yX0_whoRise.desc).map (fun d => d.parameters.length) = some 2 := by decide +kernel
theorem hdV_yX0_isEnough_RX0 : yX0_isEnough.cls = RX0 ∧ yX0_isEnough.cls ≠ "java/lang/invoke/MethodHandle" ∧ yX0_isEnough.cls ≠ "java/lang/invoke/VarHandle" ∧ (parseMethodDescriptor yX0_isEnough.desc).map (fun d => d.parameters.length) = some 1 := by decide +kernel
set_option maxHeartbeats 8000000 in
set_option maxRecDepth 100000 in
theorem c_X0_canLead (l : Launch) (D : va_G) (G : Nat → ClassId) (sz : Nat) (a_p0 : Nat) (a_p0_kitchen : Nat) (a_p0_kitchen_rules : Nat) (a_p0_kitchen_state : Nat) (a_p0_kitchen_places : Nat) (a_p0_kitchen_holders : Nat) (a_p0_kitchen_stirred : Nat) (a_p0_kitchen_rules_need : Nat) (a_p0_kitchen_rules_kind : Nat) (a_p0_kitchen_rules_first : Nat) (a_p0_kitchen_rules_second : Nat) (a_p0_kitchen_rules_after : Nat) (a_p0_kitchen_state_pieces : Nat) (a_p0_kitchen_state_friends : Nat) (a_p0_kitchen_state_spoons : Nat) (a_p0_kitchen_state_eaten : Nat) (a_p0_kitchen_state_seen : Nat) (i_p0_kitchen_rules_seats : Int) (i_p0_kitchen_rules_stirs : Int) (i_p0_kitchen_state_seenDays : Int) (i_p0_kitchen_state_bone : Int) (i_p0_kitchen_state_king : Int) (i_p0_kitchen_state_days : Int) (v_p0_kitchen_state_spoons : (Int → Int)) (v_p0_kitchen_places : (Int → Int)) (v_p0_kitchen_stirred : (Int → Int)) (x1 : Int) (x2 : Int) (r : Int) (hf : f_X0_canLead i_p0_kitchen_rules_seats v_p0_kitchen_state_spoons v_p0_kitchen_places v_p0_kitchen_stirred x1 x2 = some r) : Met l yX0_canLead wsX0_canLead rm_X0_canLead (pcG D G [.ref a_p0, .int (Int32.ofInt x1), .int (Int32.ofInt x2)] sz [(a_p0, .inr (0, [.ref a_p0_kitchen])), (a_p0_kitchen, .inr (2, [.ref a_p0_kitchen_rules, .ref a_p0_kitchen_state, .ref a_p0_kitchen_places, .ref a_p0_kitchen_holders, .ref a_p0_kitchen_stirred])), (a_p0_kitchen_rules, .inr (6, [.int (Int32.ofInt i_p0_kitchen_rules_seats), .int (Int32.ofInt i_p0_kitchen_rules_stirs), .ref a_p0_kitchen_rules_need, .ref a_p0_kitchen_rules_kind, .ref a_p0_kitchen_rules_first, .ref a_p0_kitchen_rules_second, .ref a_p0_kitchen_rules_after])), (a_p0_kitchen_state, .inr (8, [.ref a_p0_kitchen_state_pieces, .ref a_p0_kitchen_state_friends, .ref a_p0_kitchen_state_spoons, .ref a_p0_kitchen_state_eaten, .ref a_p0_kitchen_state_seen, .int (Int32.ofInt i_p0_kitchen_state_seenDays), .int (Int32.ofInt i_p0_kitchen_state_bone), .int (Int32.ofInt i_p0_kitchen_state_king), .int (Int32.ofInt i_p0_kitchen_state_days)])), (a_p0_kitchen_state_spoons, .inl (G 1, 7, .inl (zA v_p0_kitchen_state_spoons))), (a_p0_kitchen_places, .inl (G 1, 49, .inl (zA v_p0_kitchen_places))), (a_p0_kitchen_stirred, .inl (G 1, 7, .inl (zA v_p0_kitchen_stirred)))]) (qcI D G (Int32.ofInt r) [(a_p0, .inr (0, [.ref a_p0_kitchen])), (a_p0_kitchen, .inr (2, [.ref a_p0_kitchen_rules, .ref a_p0_kitchen_state, .ref a_p0_kitchen_places, .ref a_p0_kitchen_holders, .ref a_p0_kitchen_stirred])), (a_p0_kitchen_rules, .inr (6, [.int (Int32.ofInt i_p0_kitchen_rules_seats), .int (Int32.ofInt i_p0_kitchen_rules_stirs), .ref a_p0_kitchen_rules_need, .ref a_p0_kitchen_rules_kind, .ref a_p0_kitchen_rules_first, .ref a_p0_kitchen_rules_second, .ref a_p0_kitchen_rules_after])), (a_p0_kitchen_state, .inr (8, [.ref a_p0_kitchen_state_pieces, .ref a_p0_kitchen_state_friends, .ref a_p0_kitchen_state_spoons, .ref a_p0_kitchen_state_eaten, .ref a_p0_kitchen_state_seen, .int (Int32.ofInt i_p0_kitchen_state_seenDays), .int (Int32.ofInt i_p0_kitchen_state_bone), .int (Int32.ofInt i_p0_kitchen_state_king), .int (Int32.ofInt i_p0_kitchen_state_days)])), (a_p0_kitchen_state_spoons, .inl (G 1, 7, .inl (zA v_p0_kitchen_state_spoons))), (a_p0_kitchen_places, .inl (G 1, 49, .inl (zA v_p0_kitchen_places))), (a_p0_kitchen_stirred, .inl (G 1, 7, .inl (zA v_p0_kitchen_stirred)))] (va_A [(a_p0, .inr (0, [.ref a_p0_kitchen])), (a_p0_kitchen, .inr (2, [.ref a_p0_kitchen_rules, .ref a_p0_kitchen_state, .ref a_p0_kitchen_places, .ref a_p0_kitchen_holders, .ref a_p0_kitchen_stirred])), (a_p0_kitchen_rules, .inr (6, [.int (Int32.ofInt i_p0_kitchen_rules_seats), .int (Int32.ofInt i_p0_kitchen_rules_stirs), .ref a_p0_kitchen_rules_need, .ref a_p0_kitchen_rules_kind, .ref a_p0_kitchen_rules_first, .ref a_p0_kitchen_rules_second, .ref a_p0_kitchen_rules_after])), (a_p0_kitchen_state, .inr (8, [.ref a_p0_kitchen_state_pieces, .ref a_p0_kitchen_state_friends, .ref a_p0_kitchen_state_spoons, .ref a_p0_kitchen_state_eaten, .ref a_p0_kitchen_state_seen, .int (Int32.ofInt i_p0_kitchen_state_seenDays), .int (Int32.ofInt i_p0_kitchen_state_bone), .int (Int32.ofInt i_p0_kitchen_state_king), .int (Int32.ofInt i_p0_kitchen_state_days)])), (a_p0_kitchen_state_spoons, .inl (G 1, 7, .inl (zA v_p0_kitchen_state_spoons))), (a_p0_kitchen_places, .inl (G 1, 49, .inl (zA v_p0_kitchen_places))), (a_p0_kitchen_stirred, .inl (G 1, 7, .inl (zA v_p0_kitchen_stirred)))] sz)) 0 0 (va_A [(a_p0, .inr (0, [.ref a_p0_kitchen])), (a_p0_kitchen, .inr (2, [.ref a_p0_kitchen_rules, .ref a_p0_kitchen_state, .ref a_p0_kitchen_places, .ref a_p0_kitchen_holders, .ref a_p0_kitchen_stirred])), (a_p0_kitchen_rules, .inr (6, [.int (Int32.ofInt i_p0_kitchen_rules_seats), .int (Int32.ofInt i_p0_kitchen_rules_stirs), .ref a_p0_kitchen_rules_need, .ref a_p0_kitchen_rules_kind, .ref a_p0_kitchen_rules_first, .ref a_p0_kitchen_rules_second, .ref a_p0_kitchen_rules_after])), (a_p0_kitchen_state, .inr (8, [.ref a_p0_kitchen_state_pieces, .ref a_p0_kitchen_state_friends, .ref a_p0_kitchen_state_spoons, .ref a_p0_kitchen_state_eaten, .ref a_p0_kitchen_state_seen, .int (Int32.ofInt i_p0_kitchen_state_seenDays), .int (Int32.ofInt i_p0_kitchen_state_bone), .int (Int32.ofInt i_p0_kitchen_state_king), .int (Int32.ofInt i_p0_kitchen_state_days)])), (a_p0_kitchen_state_spoons, .inl (G 1, 7, .inl (zA v_p0_kitchen_state_spoons))), (a_p0_kitchen_places, .inl (G 1, 49, .inl (zA v_p0_kitchen_places))), (a_p0_kitchen_stirred, .inl (G 1, 7, .inl (zA v_p0_kitchen_stirred)))] sz) := by
  refine Met.ofW (cc := cX0_canLead) (maxL := 4) (ret := (some .boolean)) (by decide) rfl ?_
  intro p e s m args below meth c s₁ B hml hv
  obtain ⟨rfl, hsz, hP, hK, hD0⟩ := hv
  have hx := B.exec
  have hb := B.bytes
  have hr := B.returns
  have hts := atoms_spec (ws := wsX0_canLead) B.pre
  have hown : s.vm.findClass RX0 = some m.cls := findClass_of_methodNamed B.named
  have hlocks := B.notSynchronized
  subst hsz
  have hD := hD0.self (sz := s.heap.size)
  generalize hAe : va_A [(a_p0, .inr (0, [.ref a_p0_kitchen])), (a_p0_kitchen, .inr (2, [.ref a_p0_kitchen_rules, .ref a_p0_kitchen_state, .ref a_p0_kitchen_places, .ref a_p0_kitchen_holders, .ref a_p0_kitchen_stirred])), (a_p0_kitchen_rules, .inr (6, [.int (Int32.ofInt i_p0_kitchen_rules_seats), .int (Int32.ofInt i_p0_kitchen_rules_stirs), .ref a_p0_kitchen_rules_need, .ref a_p0_kitchen_rules_kind, .ref a_p0_kitchen_rules_first, .ref a_p0_kitchen_rules_second, .ref a_p0_kitchen_rules_after])), (a_p0_kitchen_state, .inr (8, [.ref a_p0_kitchen_state_pieces, .ref a_p0_kitchen_state_friends, .ref a_p0_kitchen_state_spoons, .ref a_p0_kitchen_state_eaten, .ref a_p0_kitchen_state_seen, .int (Int32.ofInt i_p0_kitchen_state_seenDays), .int (Int32.ofInt i_p0_kitchen_state_bone), .int (Int32.ofInt i_p0_kitchen_state_king), .int (Int32.ofInt i_p0_kitchen_state_days)])), (a_p0_kitchen_state_spoons, .inl (G 1, 7, .inl (zA v_p0_kitchen_state_spoons))), (a_p0_kitchen_places, .inl (G 1, 49, .inl (zA v_p0_kitchen_places))), (a_p0_kitchen_stirred, .inl (G 1, 7, .inl (zA v_p0_kitchen_stirred)))] s.heap.size = A at hD ⊢
  have hA : ∀ q : Nat, s.heap.size ≤ q → A q := fun q h => by rw [← hAe]; exact Or.inr h
  clear hAe hD0
  have hS : va_S A s.heap s.heap [] := va_S.rf
  have hl := lv_entry ([.ref a_p0, .int (Int32.ofInt x1), .int (Int32.ofInt x2)]) (n := 4) (Nat.le_of_ble_eq_true rfl)
  rw [lg_entry_eq]
  generalize (lg_sl ([.ref a_p0, .int (Int32.ofInt x1), .int (Int32.ofInt x2)]) ++ List.replicate (4 - (lg_sl ([.ref a_p0, .int (Int32.ofInt x1), .int (Int32.ofInt x2)])).length) Slot.unset).toArray = ls at hl ⊢
  have hl : lv_has ls 4 [(0, .ref a_p0), (1, .int (Int32.ofInt x1)), (2, .int (Int32.ofInt x2))] := hl
  refine W_nameQ (fun Q hQ => ?_)
  obtain ⟨H, hH⟩ : ∃ H, H = s.heap := ⟨_, rfl⟩
  replace hS : va_S A s.heap H [] := by rw [hH]; exact hS
  replace hP : va_P D vwCl [(a_p0, .inr (0, [.ref a_p0_kitchen])), (a_p0_kitchen, .inr (2, [.ref a_p0_kitchen_rules, .ref a_p0_kitchen_state, .ref a_p0_kitchen_places, .ref a_p0_kitchen_holders, .ref a_p0_kitchen_stirred])), (a_p0_kitchen_rules, .inr (6, [.int (Int32.ofInt i_p0_kitchen_rules_seats), .int (Int32.ofInt i_p0_kitchen_rules_stirs), .ref a_p0_kitchen_rules_need, .ref a_p0_kitchen_rules_kind, .ref a_p0_kitchen_rules_first, .ref a_p0_kitchen_rules_second, .ref a_p0_kitchen_rules_after])), (a_p0_kitchen_state, .inr (8, [.ref a_p0_kitchen_state_pieces, .ref a_p0_kitchen_state_friends, .ref a_p0_kitchen_state_spoons, .ref a_p0_kitchen_state_eaten, .ref a_p0_kitchen_state_seen, .int (Int32.ofInt i_p0_kitchen_state_seenDays), .int (Int32.ofInt i_p0_kitchen_state_bone), .int (Int32.ofInt i_p0_kitchen_state_king), .int (Int32.ofInt i_p0_kitchen_state_days)])), (a_p0_kitchen_state_spoons, .inl (G 1, 7, .inl (zA v_p0_kitchen_state_spoons))), (a_p0_kitchen_places, .inl (G 1, 49, .inl (zA v_p0_kitchen_places))), (a_p0_kitchen_stirred, .inl (G 1, 7, .inl (zA v_p0_kitchen_stirred)))] H := by rw [hH]; exact hP
  rw [← hH]
  clear hH
  unfold f_X0_canLead at hf
  refine lv_aload_n hx hb dX0_canLead_0 rfl (lv_at hl 0 rfl) ?_
  refine lv_iload_n hx hb dX0_canLead_1 rfl (lv_at hl 1 rfl) ?_
  refine lv_iload_n hx hb dX0_canLead_2 rfl (lv_at hl 2 rfl) ?_
  have hq := bd1_s hf
  clear hf
  obtain ⟨z1, hcall, hf⟩ := hq
  refine gnI (va_runV (As := [.int (Int32.ofInt x1), .int (Int32.ofInt x2)]) (rest := []) ⟨hx, hb, hml, hown, hts⟩ (c_X0_whoRise (l := l) (D := D) (G := G) (sz := H.size) (a_p0 := a_p0) (a_p0_kitchen := a_p0_kitchen) (a_p0_kitchen_rules := a_p0_kitchen_rules) (a_p0_kitchen_state := a_p0_kitchen_state) (a_p0_kitchen_places := a_p0_kitchen_places) (a_p0_kitchen_holders := a_p0_kitchen_holders) (a_p0_kitchen_stirred := a_p0_kitchen_stirred) (a_p0_kitchen_rules_need := a_p0_kitchen_rules_need) (a_p0_kitchen_rules_kind := a_p0_kitchen_rules_kind) (a_p0_kitchen_rules_first := a_p0_kitchen_rules_first) (a_p0_kitchen_rules_second := a_p0_kitchen_rules_second) (a_p0_kitchen_rules_after := a_p0_kitchen_rules_after) (i_p0_kitchen_rules_seats := i_p0_kitchen_rules_seats) (i_p0_kitchen_rules_stirs := i_p0_kitchen_rules_stirs) (v_p0_kitchen_places := v_p0_kitchen_places) (v_p0_kitchen_stirred := v_p0_kitchen_stirred) (x1 := x1) (x2 := x2) (r := z1) (hf := hcall)) (cwV 2 hts gX0_canLead_X0_whoRise rfl rfl rfl hdV_yX0_whoRise_RX0 ⟨Nat.le_of_ble_eq_true rfl, Nat.le_of_ble_eq_true rfl⟩) (preG_V (ci := 0) (q := (RX0, TX0, 1)) (hP.sub [0, 1, 2, 5, 6] rfl) (hD.sub [0, 1, 2, 5, 6] rfl rfl) hK rfl rfl) rfl rfl hl.1 rfl (lv_room (Nat.le_of_ble_eq_true rfl)) dX0_canLead_3 ⟨Nat.le_of_ble_eq_true rfl, Nat.le_of_ble_eq_true rfl⟩) hP hD hS hA [0, 1, 2, 5, 6] rfl (fun H locs hP hD hS => ?_)
  clear hcall
  refine z_topi (fun z2 ez => ?_)
  replace hf := bnd_s hf ez
  clear ez
  refine lv_istore_n (lv' := [(3, .int (Int32.ofInt z2)), (0, .ref a_p0), (1, .int (Int32.ofInt x1)), (2, .int (Int32.ofInt x2))]) hx hb dX0_canLead_6 rfl hl (by decide) rfl (fun ls hl => ?_)
  refine lv_iload_n hx hb dX0_canLead_7 rfl (lv_at hl 0 rfl) ?_
  refine lv_iload_n hx hb dX0_canLead_8 rfl (lv_at hl 2 rfl) ?_
  refine lv_ishr hx hb dX0_canLead_9 (z_ci (z_shr_e z2 x1) ?_)
  refine lv_iconst (v := Int32.ofInt (1 : Int)) hx hb dX0_canLead_10 (by decide) ?_
  refine lv_iand hx hb dX0_canLead_11 (z_ci (z_and_e (z_shr z2 x1) (1 : Int)) ?_)
  have hr2 := ck_c hf
  replace hf := ck_r hf
  refine lv_if_eq (tgt := 27) hx hb dX0_canLead_12 (by decide) (fun cc => ?_) (fun cc => ?_)
  ·
    replace hf := ite_t ((z_eq0 hr2).mp cc) hf
    clear cc
    refine lv_iconst (v := Int32.ofInt (0 : Int)) hx hb dX0_canLead_27 (by decide) ?_
    obtain rfl := ou1 hf
    rw [hQ]
    exact W.zret hx hb hr rfl (fun t ht hW => ⟨⟨_, (), rfl, rfl, by rw [ht]; exact hP, va_K.moved hW.alike hK, hD⟩, hS.F ht⟩) hS.2.2 dX0_canLead_28
  ·
    replace hf := ite_f (fun h9 => cc ((z_eq0 hr2).mpr h9)) hf
    clear cc
    refine lv_aload_n hx hb dX0_canLead_15 rfl (lv_at hl 1 rfl) ?_
    refine lv_iload_n hx hb dX0_canLead_16 rfl (lv_at hl 0 rfl) ?_
    have hq := bd1_s hf
    clear hf
    obtain ⟨z4, hcall, hf⟩ := hq
    refine gnI (va_runV (As := [.int (Int32.ofInt z2)]) (rest := []) ⟨hx, hb, hml, hown, hts⟩ (c_X0_isEnough (l := l) (D := D) (G := G) (sz := H.size) (a_p0 := a_p0) (a_p0_kitchen := a_p0_kitchen) (a_p0_kitchen_rules := a_p0_kitchen_rules) (a_p0_kitchen_state := a_p0_kitchen_state) (a_p0_kitchen_places := a_p0_kitchen_places) (a_p0_kitchen_holders := a_p0_kitchen_holders) (a_p0_kitchen_stirred := a_p0_kitchen_stirred) (a_p0_kitchen_rules_need := a_p0_kitchen_rules_need) (a_p0_kitchen_rules_kind := a_p0_kitchen_rules_kind) (a_p0_kitchen_rules_first := a_p0_kitchen_rules_first) (a_p0_kitchen_rules_second := a_p0_kitchen_rules_second) (a_p0_kitchen_rules_after := a_p0_kitchen_rules_after) (a_p0_kitchen_state_pieces := a_p0_kitchen_state_pieces) (a_p0_kitchen_state_friends := a_p0_kitchen_state_friends) (a_p0_kitchen_state_spoons := a_p0_kitchen_state_spoons) (a_p0_kitchen_state_eaten := a_p0_kitchen_state_eaten) (a_p0_kitchen_state_seen := a_p0_kitchen_state_seen) (i_p0_kitchen_rules_seats := i_p0_kitchen_rules_seats) (i_p0_kitchen_rules_stirs := i_p0_kitchen_rules_stirs) (i_p0_kitchen_state_seenDays := i_p0_kitchen_state_seenDays) (i_p0_kitchen_state_bone := i_p0_kitchen_state_bone) (i_p0_kitchen_state_king := i_p0_kitchen_state_king) (i_p0_kitchen_state_days := i_p0_kitchen_state_days) (v_p0_kitchen_state_spoons := v_p0_kitchen_state_spoons) (x1 := z2) (r := z4) (hf := hcall)) (cwV 1 hts gX0_canLead_X0_isEnough rfl rfl rfl hdV_yX0_isEnough_RX0 ⟨Nat.le_of_ble_eq_true rfl, Nat.le_of_ble_eq_true rfl⟩) (preG_V (ci := 0) (q := (RX0, TX0, 1)) (hP.sub [0, 1, 2, 3, 4] rfl) (hD.sub [0, 1, 2, 3, 4] rfl rfl) hK rfl rfl) rfl rfl hl.1 rfl (lv_room (Nat.le_of_ble_eq_true rfl)) dX0_canLead_17 ⟨Nat.le_of_ble_eq_true rfl, Nat.le_of_ble_eq_true rfl⟩) hP hD hS hA [0, 1, 2, 3, 4] rfl (fun H locs hP hD hS => ?_)
    clear hcall
    have hr4 := ck_c hf
    replace hf := ck_r hf
    refine lv_if_eq (tgt := 27) hx hb dX0_canLead_20 (by decide) (fun cc => ?_) (fun cc => ?_)
    ·
      replace hf := ite_t ((z_eq0 hr4).mp cc) hf
      clear cc
      refine lv_iconst (v := Int32.ofInt (0 : Int)) hx hb dX0_canLead_27 (by decide) ?_
      obtain rfl := ou1 hf
      rw [hQ]
      exact W.zret hx hb hr rfl (fun t ht hW => ⟨⟨_, (), rfl, rfl, by rw [ht]; exact hP, va_K.moved hW.alike hK, hD⟩, hS.F ht⟩) hS.2.2 dX0_canLead_28
    ·
      replace hf := ite_f (fun h9 => cc ((z_eq0 hr4).mpr h9)) hf
      clear cc
      refine lv_iconst (v := Int32.ofInt (1 : Int)) hx hb dX0_canLead_23 (by decide) ?_
      refine lv_goto (tgt := 28) hx hb dX0_canLead_24 (by decide) ?_
      obtain rfl := ou1 hf
      rw [hQ]
      exact W.zret hx hb hr rfl (fun t ht hW => ⟨⟨_, (), rfl, rfl, by rw [ht]; exact hP, va_K.moved hW.alike hK, hD⟩, hS.F ht⟩) hS.2.2 dX0_canLead_28

noncomputable def B_X0_leastLeader_2 (i_p0_kitchen_rules_seats : Int) (x1 : Int) (v_p0_kitchen_state_spoons : (Int → Int)) (v_p0_kitchen_places : (Int → Int)) (v_p0_kitchen_stirred : (Int → Int)) (again2 : Int → Option (Int)) (z2 : Int) : Option (Int) := (ck (z_r32 z2) (ck (z_r32 i_p0_kitchen_rules_seats) (if i_p0_kitchen_rules_seats ≤ z2 then (some (-4 : Int)) else (ck (z_r32 x1) (if z2 = x1 then (bnd (z2 + (1 : Int)) (fun (z7 : Int) => (again2 z7))) else (bd1 (f_X0_canLead i_p0_kitchen_rules_seats v_p0_kitchen_state_spoons v_p0_kitchen_places v_p0_kitchen_stirred z2 x1) (fun (z8 : Int) => (ck (z_r32 z8) (if z8 = (0 : Int) then (bnd (z2 + (1 : Int)) (fun (z10 : Int) => (again2 z10))) else (some z2))))))))))
noncomputable def f_X0_leastLeader (i_p0_kitchen_rules_seats : Int) (v_p0_kitchen_state_spoons : (Int → Int)) (v_p0_kitchen_places : (Int → Int)) (v_p0_kitchen_stirred : (Int → Int)) (x1 : Int) : Option (Int) := (bnd (0 : Int) (fun (z1 : Int) => (lq1 (B_X0_leastLeader_2 i_p0_kitchen_rules_seats x1 v_p0_kitchen_state_spoons v_p0_kitchen_places v_p0_kitchen_stirred) 1000 z1)))
abbrev rm_X0_leastLeader : Room := { frames := 4, cells := 0, slots := 0, locals := 91 }
theorem inX0_leastLeader_X0 : ∀ w ∈ wsX00, w ∈ wsX0_leastLeader := by first | exact fun w h => List.mem_cons_of_mem _ (List.mem_append_left _ (List.mem_append_left _ (List.mem_append_left _ (List.mem_append_right _ h)))) | decide +kernel
theorem mwX0_leastLeader_1 : Cond.fieldLink RX0 9 "LadleKings$Coups" "kitchen" "LLadleKings$Kitchen;" ∈ wsX0_leastLeader := by first | exact List.mem_of_getElem? (i := 1) rfl | decide +kernel
theorem inX0_leastLeader_X2 : ∀ w ∈ wsX20, w ∈ wsX0_leastLeader := by first | exact fun w h => List.mem_cons_of_mem _ (List.mem_append_left _ (List.mem_append_left _ (List.mem_append_right _ h))) | decide +kernel
theorem mwX0_leastLeader_3 : Cond.fieldLink RX0 15 "LadleKings$Kitchen" "rules" "LLadleKings$Rules;" ∈ wsX0_leastLeader := by first | exact List.mem_of_getElem? (i := 2) rfl | decide +kernel
theorem inX0_leastLeader_X6 : ∀ w ∈ wsX60, w ∈ wsX0_leastLeader := by first | exact fun w h => List.mem_cons_of_mem _ (List.mem_append_left _ (List.mem_append_right _ h)) | decide +kernel
theorem mwX0_leastLeader_5 : Cond.fieldLink RX0 21 "LadleKings$Rules" "seats" "I" ∈ wsX0_leastLeader := by first | exact List.mem_of_getElem? (i := 3) rfl | decide +kernel
theorem hdV_yX0_canLead_RX0 : yX0_canLead.cls = RX0 ∧ yX0_canLead.cls ≠ "java/lang/invoke/MethodHandle" ∧ yX0_canLead.cls ≠ "java/lang/invoke/VarHandle" ∧ (parseMethodDescriptor yX0_canLead.desc).map (fun d => d.parameters.length) = some 2 := by decide +kernel
set_option maxHeartbeats 8000000 in
set_option maxRecDepth 100000 in
theorem c_X0_leastLeader (l : Launch) (D : va_G) (G : Nat → ClassId) (sz : Nat) (a_p0 : Nat) (a_p0_kitchen : Nat) (a_p0_kitchen_rules : Nat) (a_p0_kitchen_state : Nat) (a_p0_kitchen_places : Nat) (a_p0_kitchen_holders : Nat) (a_p0_kitchen_stirred : Nat) (a_p0_kitchen_rules_need : Nat) (a_p0_kitchen_rules_kind : Nat) (a_p0_kitchen_rules_first : Nat) (a_p0_kitchen_rules_second : Nat) (a_p0_kitchen_rules_after : Nat) (a_p0_kitchen_state_pieces : Nat) (a_p0_kitchen_state_friends : Nat) (a_p0_kitchen_state_spoons : Nat) (a_p0_kitchen_state_eaten : Nat) (a_p0_kitchen_state_seen : Nat) (i_p0_kitchen_rules_seats : Int) (i_p0_kitchen_rules_stirs : Int) (i_p0_kitchen_state_seenDays : Int) (i_p0_kitchen_state_bone : Int) (i_p0_kitchen_state_king : Int) (i_p0_kitchen_state_days : Int) (v_p0_kitchen_state_spoons : (Int → Int)) (v_p0_kitchen_places : (Int → Int)) (v_p0_kitchen_stirred : (Int → Int)) (x1 : Int) (r : Int) (hf : f_X0_leastLeader i_p0_kitchen_rules_seats v_p0_kitchen_state_spoons v_p0_kitchen_places v_p0_kitchen_stirred x1 = some r) : Met l yX0_leastLeader wsX0_leastLeader rm_X0_leastLeader (pcG D G [.ref a_p0, .int (Int32.ofInt x1)] sz [(a_p0, .inr (0, [.ref a_p0_kitchen])), (a_p0_kitchen, .inr (2, [.ref a_p0_kitchen_rules, .ref a_p0_kitchen_state, .ref a_p0_kitchen_places, .ref a_p0_kitchen_holders, .ref a_p0_kitchen_stirred])), (a_p0_kitchen_rules, .inr (6, [.int (Int32.ofInt i_p0_kitchen_rules_seats), .int (Int32.ofInt i_p0_kitchen_rules_stirs), .ref a_p0_kitchen_rules_need, .ref a_p0_kitchen_rules_kind, .ref a_p0_kitchen_rules_first, .ref a_p0_kitchen_rules_second, .ref a_p0_kitchen_rules_after])), (a_p0_kitchen_state, .inr (8, [.ref a_p0_kitchen_state_pieces, .ref a_p0_kitchen_state_friends, .ref a_p0_kitchen_state_spoons, .ref a_p0_kitchen_state_eaten, .ref a_p0_kitchen_state_seen, .int (Int32.ofInt i_p0_kitchen_state_seenDays), .int (Int32.ofInt i_p0_kitchen_state_bone), .int (Int32.ofInt i_p0_kitchen_state_king), .int (Int32.ofInt i_p0_kitchen_state_days)])), (a_p0_kitchen_state_spoons, .inl (G 1, 7, .inl (zA v_p0_kitchen_state_spoons))), (a_p0_kitchen_places, .inl (G 1, 49, .inl (zA v_p0_kitchen_places))), (a_p0_kitchen_stirred, .inl (G 1, 7, .inl (zA v_p0_kitchen_stirred)))]) (qcI D G (Int32.ofInt r) [(a_p0, .inr (0, [.ref a_p0_kitchen])), (a_p0_kitchen, .inr (2, [.ref a_p0_kitchen_rules, .ref a_p0_kitchen_state, .ref a_p0_kitchen_places, .ref a_p0_kitchen_holders, .ref a_p0_kitchen_stirred])), (a_p0_kitchen_rules, .inr (6, [.int (Int32.ofInt i_p0_kitchen_rules_seats), .int (Int32.ofInt i_p0_kitchen_rules_stirs), .ref a_p0_kitchen_rules_need, .ref a_p0_kitchen_rules_kind, .ref a_p0_kitchen_rules_first, .ref a_p0_kitchen_rules_second, .ref a_p0_kitchen_rules_after])), (a_p0_kitchen_state, .inr (8, [.ref a_p0_kitchen_state_pieces, .ref a_p0_kitchen_state_friends, .ref a_p0_kitchen_state_spoons, .ref a_p0_kitchen_state_eaten, .ref a_p0_kitchen_state_seen, .int (Int32.ofInt i_p0_kitchen_state_seenDays), .int (Int32.ofInt i_p0_kitchen_state_bone), .int (Int32.ofInt i_p0_kitchen_state_king), .int (Int32.ofInt i_p0_kitchen_state_days)])), (a_p0_kitchen_state_spoons, .inl (G 1, 7, .inl (zA v_p0_kitchen_state_spoons))), (a_p0_kitchen_places, .inl (G 1, 49, .inl (zA v_p0_kitchen_places))), (a_p0_kitchen_stirred, .inl (G 1, 7, .inl (zA v_p0_kitchen_stirred)))] (va_A [(a_p0, .inr (0, [.ref a_p0_kitchen])), (a_p0_kitchen, .inr (2, [.ref a_p0_kitchen_rules, .ref a_p0_kitchen_state, .ref a_p0_kitchen_places, .ref a_p0_kitchen_holders, .ref a_p0_kitchen_stirred])), (a_p0_kitchen_rules, .inr (6, [.int (Int32.ofInt i_p0_kitchen_rules_seats), .int (Int32.ofInt i_p0_kitchen_rules_stirs), .ref a_p0_kitchen_rules_need, .ref a_p0_kitchen_rules_kind, .ref a_p0_kitchen_rules_first, .ref a_p0_kitchen_rules_second, .ref a_p0_kitchen_rules_after])), (a_p0_kitchen_state, .inr (8, [.ref a_p0_kitchen_state_pieces, .ref a_p0_kitchen_state_friends, .ref a_p0_kitchen_state_spoons, .ref a_p0_kitchen_state_eaten, .ref a_p0_kitchen_state_seen, .int (Int32.ofInt i_p0_kitchen_state_seenDays), .int (Int32.ofInt i_p0_kitchen_state_bone), .int (Int32.ofInt i_p0_kitchen_state_king), .int (Int32.ofInt i_p0_kitchen_state_days)])), (a_p0_kitchen_state_spoons, .inl (G 1, 7, .inl (zA v_p0_kitchen_state_spoons))), (a_p0_kitchen_places, .inl (G 1, 49, .inl (zA v_p0_kitchen_places))), (a_p0_kitchen_stirred, .inl (G 1, 7, .inl (zA v_p0_kitchen_stirred)))] sz)) 0 0 (va_A [(a_p0, .inr (0, [.ref a_p0_kitchen])), (a_p0_kitchen, .inr (2, [.ref a_p0_kitchen_rules, .ref a_p0_kitchen_state, .ref a_p0_kitchen_places, .ref a_p0_kitchen_holders, .ref a_p0_kitchen_stirred])), (a_p0_kitchen_rules, .inr (6, [.int (Int32.ofInt i_p0_kitchen_rules_seats), .int (Int32.ofInt i_p0_kitchen_rules_stirs), .ref a_p0_kitchen_rules_need, .ref a_p0_kitchen_rules_kind, .ref a_p0_kitchen_rules_first, .ref a_p0_kitchen_rules_second, .ref a_p0_kitchen_rules_after])), (a_p0_kitchen_state, .inr (8, [.ref a_p0_kitchen_state_pieces, .ref a_p0_kitchen_state_friends, .ref a_p0_kitchen_state_spoons, .ref a_p0_kitchen_state_eaten, .ref a_p0_kitchen_state_seen, .int (Int32.ofInt i_p0_kitchen_state_seenDays), .int (Int32.ofInt i_p0_kitchen_state_bone), .int (Int32.ofInt i_p0_kitchen_state_king), .int (Int32.ofInt i_p0_kitchen_state_days)])), (a_p0_kitchen_state_spoons, .inl (G 1, 7, .inl (zA v_p0_kitchen_state_spoons))), (a_p0_kitchen_places, .inl (G 1, 49, .inl (zA v_p0_kitchen_places))), (a_p0_kitchen_stirred, .inl (G 1, 7, .inl (zA v_p0_kitchen_stirred)))] sz) := by
  refine Met.ofW (cc := cX0_leastLeader) (maxL := 3) (ret := (some .int)) (by decide) rfl ?_
  intro p e s m args below meth c s₁ B hml hv
  obtain ⟨rfl, hsz, hP, hK, hD0⟩ := hv
  have hx := B.exec
  have hb := B.bytes
  have hr := B.returns
  have hts := atoms_spec (ws := wsX0_leastLeader) B.pre
  have hown : s.vm.findClass RX0 = some m.cls := findClass_of_methodNamed B.named
  have hlocks := B.notSynchronized
  subst hsz
  have hD := hD0.self (sz := s.heap.size)
  generalize hAe : va_A [(a_p0, .inr (0, [.ref a_p0_kitchen])), (a_p0_kitchen, .inr (2, [.ref a_p0_kitchen_rules, .ref a_p0_kitchen_state, .ref a_p0_kitchen_places, .ref a_p0_kitchen_holders, .ref a_p0_kitchen_stirred])), (a_p0_kitchen_rules, .inr (6, [.int (Int32.ofInt i_p0_kitchen_rules_seats), .int (Int32.ofInt i_p0_kitchen_rules_stirs), .ref a_p0_kitchen_rules_need, .ref a_p0_kitchen_rules_kind, .ref a_p0_kitchen_rules_first, .ref a_p0_kitchen_rules_second, .ref a_p0_kitchen_rules_after])), (a_p0_kitchen_state, .inr (8, [.ref a_p0_kitchen_state_pieces, .ref a_p0_kitchen_state_friends, .ref a_p0_kitchen_state_spoons, .ref a_p0_kitchen_state_eaten, .ref a_p0_kitchen_state_seen, .int (Int32.ofInt i_p0_kitchen_state_seenDays), .int (Int32.ofInt i_p0_kitchen_state_bone), .int (Int32.ofInt i_p0_kitchen_state_king), .int (Int32.ofInt i_p0_kitchen_state_days)])), (a_p0_kitchen_state_spoons, .inl (G 1, 7, .inl (zA v_p0_kitchen_state_spoons))), (a_p0_kitchen_places, .inl (G 1, 49, .inl (zA v_p0_kitchen_places))), (a_p0_kitchen_stirred, .inl (G 1, 7, .inl (zA v_p0_kitchen_stirred)))] s.heap.size = A at hD ⊢
  have hA : ∀ q : Nat, s.heap.size ≤ q → A q := fun q h => by rw [← hAe]; exact Or.inr h
  clear hAe hD0
  have hS : va_S A s.heap s.heap [] := va_S.rf
  have hl := lv_entry ([.ref a_p0, .int (Int32.ofInt x1)]) (n := 3) (Nat.le_of_ble_eq_true rfl)
  rw [lg_entry_eq]
  generalize (lg_sl ([.ref a_p0, .int (Int32.ofInt x1)]) ++ List.replicate (3 - (lg_sl ([.ref a_p0, .int (Int32.ofInt x1)])).length) Slot.unset).toArray = ls at hl ⊢
  have hl : lv_has ls 3 [(0, .ref a_p0), (1, .int (Int32.ofInt x1))] := hl
  refine W_nameQ (fun Q hQ => ?_)
  obtain ⟨H, hH⟩ : ∃ H, H = s.heap := ⟨_, rfl⟩
  replace hS : va_S A s.heap H [] := by rw [hH]; exact hS
  replace hP : va_P D vwCl [(a_p0, .inr (0, [.ref a_p0_kitchen])), (a_p0_kitchen, .inr (2, [.ref a_p0_kitchen_rules, .ref a_p0_kitchen_state, .ref a_p0_kitchen_places, .ref a_p0_kitchen_holders, .ref a_p0_kitchen_stirred])), (a_p0_kitchen_rules, .inr (6, [.int (Int32.ofInt i_p0_kitchen_rules_seats), .int (Int32.ofInt i_p0_kitchen_rules_stirs), .ref a_p0_kitchen_rules_need, .ref a_p0_kitchen_rules_kind, .ref a_p0_kitchen_rules_first, .ref a_p0_kitchen_rules_second, .ref a_p0_kitchen_rules_after])), (a_p0_kitchen_state, .inr (8, [.ref a_p0_kitchen_state_pieces, .ref a_p0_kitchen_state_friends, .ref a_p0_kitchen_state_spoons, .ref a_p0_kitchen_state_eaten, .ref a_p0_kitchen_state_seen, .int (Int32.ofInt i_p0_kitchen_state_seenDays), .int (Int32.ofInt i_p0_kitchen_state_bone), .int (Int32.ofInt i_p0_kitchen_state_king), .int (Int32.ofInt i_p0_kitchen_state_days)])), (a_p0_kitchen_state_spoons, .inl (G 1, 7, .inl (zA v_p0_kitchen_state_spoons))), (a_p0_kitchen_places, .inl (G 1, 49, .inl (zA v_p0_kitchen_places))), (a_p0_kitchen_stirred, .inl (G 1, 7, .inl (zA v_p0_kitchen_stirred)))] H := by rw [hH]; exact hP
  rw [← hH]
  clear hH
  unfold f_X0_leastLeader at hf
  refine lv_iconst (v := Int32.ofInt (0 : Int)) hx hb dX0_leastLeader_0 (by decide) ?_
  refine z_topi (fun z1 ez => ?_)
  replace hf := bnd_s hf ez
  clear ez
  refine lv_istore_n (lv' := [(2, .int (Int32.ofInt z1)), (0, .ref a_p0), (1, .int (Int32.ofInt x1))]) hx hb dX0_leastLeader_1 rfl hl (by decide) rfl (fun ls hl => ?_)
  have hq := lq1_i hf
  clear hf
  obtain ⟨B3, eB3, NB3, hf⟩ := hq
  have hB3 : ∀ (n : Nat) (z2 : Int) (ls : Array Slot) (H : Heap) (locs : List Loc), lv_has ls 3 [(2, .int (Int32.ofInt z2)), (0, .ref a_p0), (1, .int (Int32.ofInt x1))] → va_P D vwCl [(a_p0, .inr (0, [.ref a_p0_kitchen])), (a_p0_kitchen, .inr (2, [.ref a_p0_kitchen_rules, .ref a_p0_kitchen_state, .ref a_p0_kitchen_places, .ref a_p0_kitchen_holders, .ref a_p0_kitchen_stirred])), (a_p0_kitchen_rules, .inr (6, [.int (Int32.ofInt i_p0_kitchen_rules_seats), .int (Int32.ofInt i_p0_kitchen_rules_stirs), .ref a_p0_kitchen_rules_need, .ref a_p0_kitchen_rules_kind, .ref a_p0_kitchen_rules_first, .ref a_p0_kitchen_rules_second, .ref a_p0_kitchen_rules_after])), (a_p0_kitchen_state, .inr (8, [.ref a_p0_kitchen_state_pieces, .ref a_p0_kitchen_state_friends, .ref a_p0_kitchen_state_spoons, .ref a_p0_kitchen_state_eaten, .ref a_p0_kitchen_state_seen, .int (Int32.ofInt i_p0_kitchen_state_seenDays), .int (Int32.ofInt i_p0_kitchen_state_bone), .int (Int32.ofInt i_p0_kitchen_state_king), .int (Int32.ofInt i_p0_kitchen_state_days)])), (a_p0_kitchen_state_spoons, .inl (G 1, 7, .inl (zA v_p0_kitchen_state_spoons))), (a_p0_kitchen_places, .inl (G 1, 49, .inl (zA v_p0_kitchen_places))), (a_p0_kitchen_stirred, .inl (G 1, 7, .inl (zA v_p0_kitchen_stirred)))] H → va_D A [(a_p0, .inr (0, [.ref a_p0_kitchen])), (a_p0_kitchen, .inr (2, [.ref a_p0_kitchen_rules, .ref a_p0_kitchen_state, .ref a_p0_kitchen_places, .ref a_p0_kitchen_holders, .ref a_p0_kitchen_stirred])), (a_p0_kitchen_rules, .inr (6, [.int (Int32.ofInt i_p0_kitchen_rules_seats), .int (Int32.ofInt i_p0_kitchen_rules_stirs), .ref a_p0_kitchen_rules_need, .ref a_p0_kitchen_rules_kind, .ref a_p0_kitchen_rules_first, .ref a_p0_kitchen_rules_second, .ref a_p0_kitchen_rules_after])), (a_p0_kitchen_state, .inr (8, [.ref a_p0_kitchen_state_pieces, .ref a_p0_kitchen_state_friends, .ref a_p0_kitchen_state_spoons, .ref a_p0_kitchen_state_eaten, .ref a_p0_kitchen_state_seen, .int (Int32.ofInt i_p0_kitchen_state_seenDays), .int (Int32.ofInt i_p0_kitchen_state_bone), .int (Int32.ofInt i_p0_kitchen_state_king), .int (Int32.ofInt i_p0_kitchen_state_days)])), (a_p0_kitchen_state_spoons, .inl (G 1, 7, .inl (zA v_p0_kitchen_state_spoons))), (a_p0_kitchen_places, .inl (G 1, 49, .inl (zA v_p0_kitchen_places))), (a_p0_kitchen_stirred, .inl (G 1, 7, .inl (zA v_p0_kitchen_stirred)))] → va_S A s.heap H locs → lq1 B3 n z2 = some r → W p l e rm_X0_leastLeader s m ([.ref a_p0, .int (Int32.ofInt x1)] : List Value).toArray below meth c H locs 0 0 Q (F0 m 2 ls []) := by
    clear hf hl hP hD hS
    intro n
    induction n with
    | zero =>
      intro z2 ls H locs hl hP hD hS hf
      exact (lq1_0 hf).elim
    | succ n ih2 =>
      intro z2 ls H locs hl hP hD hS hf
      replace hf := lq1_s eB3 hf
      unfold B_X0_leastLeader_2 at hf
      refine lv_iload_n hx hb dX0_leastLeader_2 rfl (lv_at hl 0 rfl) ?_
      refine lv_aload_n hx hb dX0_leastLeader_3 rfl (lv_at hl 1 rfl) ?_
      refine va_get (D := D) (ci := 0) (v := .ref a_p0_kitchen) (C := RX0) (T := TX0) (N := 1) hx hb hts inX0_leastLeader_X0 hown hK hP 0 rfl rfl 0 (by decide) (hts _ mwX0_leastLeader_1) (fun _ h9 => h9) rfl dX0_leastLeader_4 ?_
      refine va_get (D := D) (ci := 2) (v := .ref a_p0_kitchen_rules) (C := RX2) (T := TX2) (N := 5) hx hb hts inX0_leastLeader_X2 hown hK hP 1 rfl rfl 0 (by decide) (hts _ mwX0_leastLeader_3) (fun _ h9 => h9) rfl dX0_leastLeader_7 ?_
      refine va_get (D := D) (ci := 6) (v := .int (Int32.ofInt i_p0_kitchen_rules_seats)) (C := RX6) (T := TX6) (N := 7) hx hb hts inX0_leastLeader_X6 hown hK hP 2 rfl rfl 0 (by decide) (hts _ mwX0_leastLeader_5) (fun _ h9 => h9) rfl dX0_leastLeader_10 ?_
      have hr3 := ck_c hf
      replace hf := ck_r hf
      have hr4 := ck_c hf
      replace hf := ck_r hf
      refine lv_icmp_ge (tgt := 38) hx hb dX0_leastLeader_13 (by decide) (fun cc => ?_) (fun cc => ?_)
      ·
        replace hf := ite_t ((z_le hr4 hr3).mp cc) hf
        clear cc
        refine lv_bipush (v := Int32.ofInt (-4 : Int)) hx hb dX0_leastLeader_38 (by decide) ?_
        obtain rfl := ou1 hf
        rw [hQ]
        exact W.iret hx hb hr (fun t ht hW => ⟨⟨_, (), rfl, rfl, by rw [ht]; exact hP, va_K.moved hW.alike hK, hD⟩, hS.F ht⟩) hS.2.2 dX0_leastLeader_40
      ·
        replace hf := ite_f (fun h9 => cc ((z_le hr4 hr3).mpr h9)) hf
        clear cc
        refine lv_iload_n hx hb dX0_leastLeader_16 rfl (lv_at hl 0 rfl) ?_
        refine lv_iload_n hx hb dX0_leastLeader_17 rfl (lv_at hl 2 rfl) ?_
        have hr5 := ck_c hf
        replace hf := ck_r hf
        refine lv_icmp_eq (tgt := 32) hx hb dX0_leastLeader_18 (by decide) (fun cc => ?_) (fun cc => ?_)
        ·
          replace hf := ite_t ((z_eq hr3 hr5).mp cc) hf
          clear cc
          obtain ⟨z7, ez⟩ : ∃ y : Int, y = (z2 + (1 : Int)) := ⟨_, rfl⟩
          replace hf := bnd_s hf ez
          refine lv_iinc (v := Int32.ofInt z7) (lv' := [(2, .int (Int32.ofInt z7)), (0, .ref a_p0), (1, .int (Int32.ofInt x1))]) hx hb dX0_leastLeader_32 hl (k := 0) rfl (by rw [ez]; exact (Int32.ofInt_add _ _).symm) (by decide) rfl (fun ls hl => ?_)
          clear ez
          refine lv_goto (tgt := 2) hx hb dX0_leastLeader_35 (by decide) ?_
          exact ih2 _ _ _ _ (lv_sub hl [0, 1, 2] rfl) hP hD hS hf
        ·
          replace hf := ite_f (fun h9 => cc ((z_eq hr3 hr5).mpr h9)) hf
          clear cc
          refine lv_aload_n hx hb dX0_leastLeader_21 rfl (lv_at hl 1 rfl) ?_
          refine lv_iload_n hx hb dX0_leastLeader_22 rfl (lv_at hl 0 rfl) ?_
          refine lv_iload_n hx hb dX0_leastLeader_23 rfl (lv_at hl 2 rfl) ?_
          have hq := bd1_s hf
          clear hf
          obtain ⟨z8, hcall, hf⟩ := hq
          refine gnI (va_runV (As := [.int (Int32.ofInt z2), .int (Int32.ofInt x1)]) (rest := []) ⟨hx, hb, hml, hown, hts⟩ (c_X0_canLead (l := l) (D := D) (G := G) (sz := H.size) (a_p0 := a_p0) (a_p0_kitchen := a_p0_kitchen) (a_p0_kitchen_rules := a_p0_kitchen_rules) (a_p0_kitchen_state := a_p0_kitchen_state) (a_p0_kitchen_places := a_p0_kitchen_places) (a_p0_kitchen_holders := a_p0_kitchen_holders) (a_p0_kitchen_stirred := a_p0_kitchen_stirred) (a_p0_kitchen_rules_need := a_p0_kitchen_rules_need) (a_p0_kitchen_rules_kind := a_p0_kitchen_rules_kind) (a_p0_kitchen_rules_first := a_p0_kitchen_rules_first) (a_p0_kitchen_rules_second := a_p0_kitchen_rules_second) (a_p0_kitchen_rules_after := a_p0_kitchen_rules_after) (a_p0_kitchen_state_pieces := a_p0_kitchen_state_pieces) (a_p0_kitchen_state_friends := a_p0_kitchen_state_friends) (a_p0_kitchen_state_spoons := a_p0_kitchen_state_spoons) (a_p0_kitchen_state_eaten := a_p0_kitchen_state_eaten) (a_p0_kitchen_state_seen := a_p0_kitchen_state_seen) (i_p0_kitchen_rules_seats := i_p0_kitchen_rules_seats) (i_p0_kitchen_rules_stirs := i_p0_kitchen_rules_stirs) (i_p0_kitchen_state_seenDays := i_p0_kitchen_state_seenDays) (i_p0_kitchen_state_bone := i_p0_kitchen_state_bone) (i_p0_kitchen_state_king := i_p0_kitchen_state_king) (i_p0_kitchen_state_days := i_p0_kitchen_state_days) (v_p0_kitchen_state_spoons := v_p0_kitchen_state_spoons) (v_p0_kitchen_places := v_p0_kitchen_places) (v_p0_kitchen_stirred := v_p0_kitchen_stirred) (x1 := z2) (x2 := x1) (r := z8) (hf := hcall)) (cwV 2 hts gX0_leastLeader_X0_canLead rfl rfl rfl hdV_yX0_canLead_RX0 ⟨Nat.le_of_ble_eq_true rfl, Nat.le_of_ble_eq_true rfl⟩) (preG_V (ci := 0) (q := (RX0, TX0, 1)) (hP.sub [0, 1, 2, 3, 4, 5, 6] rfl) (hD.sub [0, 1, 2, 3, 4, 5, 6] rfl rfl) hK rfl rfl) rfl rfl hl.1 rfl (lv_room (Nat.le_of_ble_eq_true rfl)) dX0_leastLeader_24 ⟨Nat.le_of_ble_eq_true rfl, Nat.le_of_ble_eq_true rfl⟩) hP hD hS hA [0, 1, 2, 3, 4, 5, 6] rfl (fun H locs hP hD hS => ?_)
          clear hcall
          have hr8 := ck_c hf
          replace hf := ck_r hf
          refine lv_if_eq (tgt := 32) hx hb dX0_leastLeader_27 (by decide) (fun cc => ?_) (fun cc => ?_)
          ·
            replace hf := ite_t ((z_eq0 hr8).mp cc) hf
            clear cc
            obtain ⟨z10, ez⟩ : ∃ y : Int, y = (z2 + (1 : Int)) := ⟨_, rfl⟩
            replace hf := bnd_s hf ez
            refine lv_iinc (v := Int32.ofInt z10) (lv' := [(2, .int (Int32.ofInt z10)), (0, .ref a_p0), (1, .int (Int32.ofInt x1))]) hx hb dX0_leastLeader_32 hl (k := 0) rfl (by rw [ez]; exact (Int32.ofInt_add _ _).symm) (by decide) rfl (fun ls hl => ?_)
            clear ez
            refine lv_goto (tgt := 2) hx hb dX0_leastLeader_35 (by decide) ?_
            exact ih2 _ _ _ _ (lv_sub hl [0, 1, 2] rfl) hP hD hS hf
          ·
            replace hf := ite_f (fun h9 => cc ((z_eq0 hr8).mpr h9)) hf
            clear cc
            refine lv_iload_n hx hb dX0_leastLeader_30 rfl (lv_at hl 0 rfl) ?_
            obtain rfl := ou1 hf
            rw [hQ]
            exact W.iret hx hb hr (fun t ht hW => ⟨⟨_, (), rfl, rfl, by rw [ht]; exact hP, va_K.moved hW.alike hK, hD⟩, hS.F ht⟩) hS.2.2 dX0_leastLeader_31
  exact hB3 _ _ _ _ _ (lv_sub hl [0, 1, 2] rfl) hP hD hS hf

noncomputable def B_X0_leastBand_21 (x2 : Int) (i_p0_kitchen_rules_seats : Int) (v_p0_kitchen_state_spoons : (Int → Int)) (again21 : Int → Int → Option (Int)) (z4 : Int) (z5 : Int) : Option (Int) := (ck (z_r32 z4) (if z4 < (0 : Int) then (some z5) else (bnd (z_and z5 (z_xor (z_shl (1 : Int) z4) (-1 : Int))) (fun (z8 : Int) => (ck (z_r32 x2) (if z4 = x2 then (bnd (z4 + (-1 : Int)) (fun (z10 : Int) => (again21 z10 z5))) else (bd1 (f_X0_isEnough i_p0_kitchen_rules_seats v_p0_kitchen_state_spoons z8) (fun (z11 : Int) => (ck (z_r32 z11) (if z11 = (0 : Int) then (bnd (z4 + (-1 : Int)) (fun (z13 : Int) => (again21 z13 z5))) else (bnd z8 (fun (z14 : Int) => (bnd (z4 + (-1 : Int)) (fun (z15 : Int) => (again21 z15 z14)))))))))))))))
noncomputable def f_X0_leastBand (i_p0_kitchen_rules_seats : Int) (v_p0_kitchen_state_spoons : (Int → Int)) (v_p0_kitchen_places : (Int → Int)) (v_p0_kitchen_stirred : (Int → Int)) (x1 : Int) (x2 : Int) : Option (Int) := (bd1 (f_X0_whoRise i_p0_kitchen_rules_seats v_p0_kitchen_places v_p0_kitchen_stirred x2 x1) (fun (z1 : Int) => (bnd z1 (fun (z2 : Int) => (bnd (i_p0_kitchen_rules_seats - (1 : Int)) (fun (z3 : Int) => (lq2 (B_X0_leastBand_21 x2 i_p0_kitchen_rules_seats v_p0_kitchen_state_spoons) 1000 z3 z2)))))))
abbrev rm_X0_leastBand : Room := { frames := 3, cells := 0, slots := 0, locals := 68 }
theorem inX0_leastBand_X0 : ∀ w ∈ wsX00, w ∈ wsX0_leastBand := by first | exact fun w h => List.mem_cons_of_mem _ (List.mem_append_left _ (List.mem_append_left _ (List.mem_append_left _ (List.mem_append_right _ h)))) | decide +kernel
theorem mwX0_leastBand_1 : Cond.fieldLink RX0 9 "LadleKings$Coups" "kitchen" "LLadleKings$Kitchen;" ∈ wsX0_leastBand := by first | exact List.mem_of_getElem? (i := 1) rfl | decide +kernel
theorem inX0_leastBand_X2 : ∀ w ∈ wsX20, w ∈ wsX0_leastBand := by first | exact fun w h => List.mem_cons_of_mem _ (List.mem_append_left _ (List.mem_append_left _ (List.mem_append_right _ h))) | decide +kernel
theorem mwX0_leastBand_3 : Cond.fieldLink RX0 15 "LadleKings$Kitchen" "rules" "LLadleKings$Rules;" ∈ wsX0_leastBand := by first | exact List.mem_of_getElem? (i := 2) rfl | decide +kernel
theorem inX0_leastBand_X6 : ∀ w ∈ wsX60, w ∈ wsX0_leastBand := by first | exact fun w h => List.mem_cons_of_mem _ (List.mem_append_left _ (List.mem_append_right _ h)) | decide +kernel
theorem mwX0_leastBand_5 : Cond.fieldLink RX0 21 "LadleKings$Rules" "seats" "I" ∈ wsX0_leastBand := by first | exact List.mem_of_getElem? (i := 3) rfl | decide +kernel
set_option maxHeartbeats 8000000 in
set_option maxRecDepth 100000 in
theorem c_X0_leastBand (l : Launch) (D : va_G) (G : Nat → ClassId) (sz : Nat) (a_p0 : Nat) (a_p0_kitchen : Nat) (a_p0_kitchen_rules : Nat) (a_p0_kitchen_state : Nat) (a_p0_kitchen_places : Nat) (a_p0_kitchen_holders : Nat) (a_p0_kitchen_stirred : Nat) (a_p0_kitchen_rules_need : Nat) (a_p0_kitchen_rules_kind : Nat) (a_p0_kitchen_rules_first : Nat) (a_p0_kitchen_rules_second : Nat) (a_p0_kitchen_rules_after : Nat) (a_p0_kitchen_state_pieces : Nat) (a_p0_kitchen_state_friends : Nat) (a_p0_kitchen_state_spoons : Nat) (a_p0_kitchen_state_eaten : Nat) (a_p0_kitchen_state_seen : Nat) (i_p0_kitchen_rules_seats : Int) (i_p0_kitchen_rules_stirs : Int) (i_p0_kitchen_state_seenDays : Int) (i_p0_kitchen_state_bone : Int) (i_p0_kitchen_state_king : Int) (i_p0_kitchen_state_days : Int) (v_p0_kitchen_state_spoons : (Int → Int)) (v_p0_kitchen_places : (Int → Int)) (v_p0_kitchen_stirred : (Int → Int)) (x1 : Int) (x2 : Int) (r : Int) (hf : f_X0_leastBand i_p0_kitchen_rules_seats v_p0_kitchen_state_spoons v_p0_kitchen_places v_p0_kitchen_stirred x1 x2 = some r) : Met l yX0_leastBand wsX0_leastBand rm_X0_leastBand (pcG D G [.ref a_p0, .int (Int32.ofInt x1), .int (Int32.ofInt x2)] sz [(a_p0, .inr (0, [.ref a_p0_kitchen])), (a_p0_kitchen, .inr (2, [.ref a_p0_kitchen_rules, .ref a_p0_kitchen_state, .ref a_p0_kitchen_places, .ref a_p0_kitchen_holders, .ref a_p0_kitchen_stirred])), (a_p0_kitchen_rules, .inr (6, [.int (Int32.ofInt i_p0_kitchen_rules_seats), .int (Int32.ofInt i_p0_kitchen_rules_stirs), .ref a_p0_kitchen_rules_need, .ref a_p0_kitchen_rules_kind, .ref a_p0_kitchen_rules_first, .ref a_p0_kitchen_rules_second, .ref a_p0_kitchen_rules_after])), (a_p0_kitchen_state, .inr (8, [.ref a_p0_kitchen_state_pieces, .ref a_p0_kitchen_state_friends, .ref a_p0_kitchen_state_spoons, .ref a_p0_kitchen_state_eaten, .ref a_p0_kitchen_state_seen, .int (Int32.ofInt i_p0_kitchen_state_seenDays), .int (Int32.ofInt i_p0_kitchen_state_bone), .int (Int32.ofInt i_p0_kitchen_state_king), .int (Int32.ofInt i_p0_kitchen_state_days)])), (a_p0_kitchen_state_spoons, .inl (G 1, 7, .inl (zA v_p0_kitchen_state_spoons))), (a_p0_kitchen_places, .inl (G 1, 49, .inl (zA v_p0_kitchen_places))), (a_p0_kitchen_stirred, .inl (G 1, 7, .inl (zA v_p0_kitchen_stirred)))]) (qcI D G (Int32.ofInt r) [(a_p0, .inr (0, [.ref a_p0_kitchen])), (a_p0_kitchen, .inr (2, [.ref a_p0_kitchen_rules, .ref a_p0_kitchen_state, .ref a_p0_kitchen_places, .ref a_p0_kitchen_holders, .ref a_p0_kitchen_stirred])), (a_p0_kitchen_rules, .inr (6, [.int (Int32.ofInt i_p0_kitchen_rules_seats), .int (Int32.ofInt i_p0_kitchen_rules_stirs), .ref a_p0_kitchen_rules_need, .ref a_p0_kitchen_rules_kind, .ref a_p0_kitchen_rules_first, .ref a_p0_kitchen_rules_second, .ref a_p0_kitchen_rules_after])), (a_p0_kitchen_state, .inr (8, [.ref a_p0_kitchen_state_pieces, .ref a_p0_kitchen_state_friends, .ref a_p0_kitchen_state_spoons, .ref a_p0_kitchen_state_eaten, .ref a_p0_kitchen_state_seen, .int (Int32.ofInt i_p0_kitchen_state_seenDays), .int (Int32.ofInt i_p0_kitchen_state_bone), .int (Int32.ofInt i_p0_kitchen_state_king), .int (Int32.ofInt i_p0_kitchen_state_days)])), (a_p0_kitchen_state_spoons, .inl (G 1, 7, .inl (zA v_p0_kitchen_state_spoons))), (a_p0_kitchen_places, .inl (G 1, 49, .inl (zA v_p0_kitchen_places))), (a_p0_kitchen_stirred, .inl (G 1, 7, .inl (zA v_p0_kitchen_stirred)))] (va_A [(a_p0, .inr (0, [.ref a_p0_kitchen])), (a_p0_kitchen, .inr (2, [.ref a_p0_kitchen_rules, .ref a_p0_kitchen_state, .ref a_p0_kitchen_places, .ref a_p0_kitchen_holders, .ref a_p0_kitchen_stirred])), (a_p0_kitchen_rules, .inr (6, [.int (Int32.ofInt i_p0_kitchen_rules_seats), .int (Int32.ofInt i_p0_kitchen_rules_stirs), .ref a_p0_kitchen_rules_need, .ref a_p0_kitchen_rules_kind, .ref a_p0_kitchen_rules_first, .ref a_p0_kitchen_rules_second, .ref a_p0_kitchen_rules_after])), (a_p0_kitchen_state, .inr (8, [.ref a_p0_kitchen_state_pieces, .ref a_p0_kitchen_state_friends, .ref a_p0_kitchen_state_spoons, .ref a_p0_kitchen_state_eaten, .ref a_p0_kitchen_state_seen, .int (Int32.ofInt i_p0_kitchen_state_seenDays), .int (Int32.ofInt i_p0_kitchen_state_bone), .int (Int32.ofInt i_p0_kitchen_state_king), .int (Int32.ofInt i_p0_kitchen_state_days)])), (a_p0_kitchen_state_spoons, .inl (G 1, 7, .inl (zA v_p0_kitchen_state_spoons))), (a_p0_kitchen_places, .inl (G 1, 49, .inl (zA v_p0_kitchen_places))), (a_p0_kitchen_stirred, .inl (G 1, 7, .inl (zA v_p0_kitchen_stirred)))] sz)) 0 0 (va_A [(a_p0, .inr (0, [.ref a_p0_kitchen])), (a_p0_kitchen, .inr (2, [.ref a_p0_kitchen_rules, .ref a_p0_kitchen_state, .ref a_p0_kitchen_places, .ref a_p0_kitchen_holders, .ref a_p0_kitchen_stirred])), (a_p0_kitchen_rules, .inr (6, [.int (Int32.ofInt i_p0_kitchen_rules_seats), .int (Int32.ofInt i_p0_kitchen_rules_stirs), .ref a_p0_kitchen_rules_need, .ref a_p0_kitchen_rules_kind, .ref a_p0_kitchen_rules_first, .ref a_p0_kitchen_rules_second, .ref a_p0_kitchen_rules_after])), (a_p0_kitchen_state, .inr (8, [.ref a_p0_kitchen_state_pieces, .ref a_p0_kitchen_state_friends, .ref a_p0_kitchen_state_spoons, .ref a_p0_kitchen_state_eaten, .ref a_p0_kitchen_state_seen, .int (Int32.ofInt i_p0_kitchen_state_seenDays), .int (Int32.ofInt i_p0_kitchen_state_bone), .int (Int32.ofInt i_p0_kitchen_state_king), .int (Int32.ofInt i_p0_kitchen_state_days)])), (a_p0_kitchen_state_spoons, .inl (G 1, 7, .inl (zA v_p0_kitchen_state_spoons))), (a_p0_kitchen_places, .inl (G 1, 49, .inl (zA v_p0_kitchen_places))), (a_p0_kitchen_stirred, .inl (G 1, 7, .inl (zA v_p0_kitchen_stirred)))] sz) := by
  refine Met.ofW (cc := cX0_leastBand) (maxL := 6) (ret := (some .int)) (by decide) rfl ?_
  intro p e s m args below meth c s₁ B hml hv
  obtain ⟨rfl, hsz, hP, hK, hD0⟩ := hv
  have hx := B.exec
  have hb := B.bytes
  have hr := B.returns
  have hts := atoms_spec (ws := wsX0_leastBand) B.pre
  have hown : s.vm.findClass RX0 = some m.cls := findClass_of_methodNamed B.named
  have hlocks := B.notSynchronized
  subst hsz
  have hD := hD0.self (sz := s.heap.size)
  generalize hAe : va_A [(a_p0, .inr (0, [.ref a_p0_kitchen])), (a_p0_kitchen, .inr (2, [.ref a_p0_kitchen_rules, .ref a_p0_kitchen_state, .ref a_p0_kitchen_places, .ref a_p0_kitchen_holders, .ref a_p0_kitchen_stirred])), (a_p0_kitchen_rules, .inr (6, [.int (Int32.ofInt i_p0_kitchen_rules_seats), .int (Int32.ofInt i_p0_kitchen_rules_stirs), .ref a_p0_kitchen_rules_need, .ref a_p0_kitchen_rules_kind, .ref a_p0_kitchen_rules_first, .ref a_p0_kitchen_rules_second, .ref a_p0_kitchen_rules_after])), (a_p0_kitchen_state, .inr (8, [.ref a_p0_kitchen_state_pieces, .ref a_p0_kitchen_state_friends, .ref a_p0_kitchen_state_spoons, .ref a_p0_kitchen_state_eaten, .ref a_p0_kitchen_state_seen, .int (Int32.ofInt i_p0_kitchen_state_seenDays), .int (Int32.ofInt i_p0_kitchen_state_bone), .int (Int32.ofInt i_p0_kitchen_state_king), .int (Int32.ofInt i_p0_kitchen_state_days)])), (a_p0_kitchen_state_spoons, .inl (G 1, 7, .inl (zA v_p0_kitchen_state_spoons))), (a_p0_kitchen_places, .inl (G 1, 49, .inl (zA v_p0_kitchen_places))), (a_p0_kitchen_stirred, .inl (G 1, 7, .inl (zA v_p0_kitchen_stirred)))] s.heap.size = A at hD ⊢
  have hA : ∀ q : Nat, s.heap.size ≤ q → A q := fun q h => by rw [← hAe]; exact Or.inr h
  clear hAe hD0
  have hS : va_S A s.heap s.heap [] := va_S.rf
  have hl := lv_entry ([.ref a_p0, .int (Int32.ofInt x1), .int (Int32.ofInt x2)]) (n := 6) (Nat.le_of_ble_eq_true rfl)
  rw [lg_entry_eq]
  generalize (lg_sl ([.ref a_p0, .int (Int32.ofInt x1), .int (Int32.ofInt x2)]) ++ List.replicate (6 - (lg_sl ([.ref a_p0, .int (Int32.ofInt x1), .int (Int32.ofInt x2)])).length) Slot.unset).toArray = ls at hl ⊢
  have hl : lv_has ls 6 [(0, .ref a_p0), (1, .int (Int32.ofInt x1)), (2, .int (Int32.ofInt x2))] := hl
  refine W_nameQ (fun Q hQ => ?_)
  obtain ⟨H, hH⟩ : ∃ H, H = s.heap := ⟨_, rfl⟩
  replace hS : va_S A s.heap H [] := by rw [hH]; exact hS
  replace hP : va_P D vwCl [(a_p0, .inr (0, [.ref a_p0_kitchen])), (a_p0_kitchen, .inr (2, [.ref a_p0_kitchen_rules, .ref a_p0_kitchen_state, .ref a_p0_kitchen_places, .ref a_p0_kitchen_holders, .ref a_p0_kitchen_stirred])), (a_p0_kitchen_rules, .inr (6, [.int (Int32.ofInt i_p0_kitchen_rules_seats), .int (Int32.ofInt i_p0_kitchen_rules_stirs), .ref a_p0_kitchen_rules_need, .ref a_p0_kitchen_rules_kind, .ref a_p0_kitchen_rules_first, .ref a_p0_kitchen_rules_second, .ref a_p0_kitchen_rules_after])), (a_p0_kitchen_state, .inr (8, [.ref a_p0_kitchen_state_pieces, .ref a_p0_kitchen_state_friends, .ref a_p0_kitchen_state_spoons, .ref a_p0_kitchen_state_eaten, .ref a_p0_kitchen_state_seen, .int (Int32.ofInt i_p0_kitchen_state_seenDays), .int (Int32.ofInt i_p0_kitchen_state_bone), .int (Int32.ofInt i_p0_kitchen_state_king), .int (Int32.ofInt i_p0_kitchen_state_days)])), (a_p0_kitchen_state_spoons, .inl (G 1, 7, .inl (zA v_p0_kitchen_state_spoons))), (a_p0_kitchen_places, .inl (G 1, 49, .inl (zA v_p0_kitchen_places))), (a_p0_kitchen_stirred, .inl (G 1, 7, .inl (zA v_p0_kitchen_stirred)))] H := by rw [hH]; exact hP
  rw [← hH]
  clear hH
  unfold f_X0_leastBand at hf
  refine lv_aload_n hx hb dX0_leastBand_0 rfl (lv_at hl 0 rfl) ?_
  refine lv_iload_n hx hb dX0_leastBand_1 rfl (lv_at hl 2 rfl) ?_
  refine lv_iload_n hx hb dX0_leastBand_2 rfl (lv_at hl 1 rfl) ?_
  have hq := bd1_s hf
  clear hf
  obtain ⟨z1, hcall, hf⟩ := hq
  refine gnI (va_runV (As := [.int (Int32.ofInt x2), .int (Int32.ofInt x1)]) (rest := []) ⟨hx, hb, hml, hown, hts⟩ (c_X0_whoRise (l := l) (D := D) (G := G) (sz := H.size) (a_p0 := a_p0) (a_p0_kitchen := a_p0_kitchen) (a_p0_kitchen_rules := a_p0_kitchen_rules) (a_p0_kitchen_state := a_p0_kitchen_state) (a_p0_kitchen_places := a_p0_kitchen_places) (a_p0_kitchen_holders := a_p0_kitchen_holders) (a_p0_kitchen_stirred := a_p0_kitchen_stirred) (a_p0_kitchen_rules_need := a_p0_kitchen_rules_need) (a_p0_kitchen_rules_kind := a_p0_kitchen_rules_kind) (a_p0_kitchen_rules_first := a_p0_kitchen_rules_first) (a_p0_kitchen_rules_second := a_p0_kitchen_rules_second) (a_p0_kitchen_rules_after := a_p0_kitchen_rules_after) (i_p0_kitchen_rules_seats := i_p0_kitchen_rules_seats) (i_p0_kitchen_rules_stirs := i_p0_kitchen_rules_stirs) (v_p0_kitchen_places := v_p0_kitchen_places) (v_p0_kitchen_stirred := v_p0_kitchen_stirred) (x1 := x2) (x2 := x1) (r := z1) (hf := hcall)) (cwV 2 hts gX0_leastBand_X0_whoRise rfl rfl rfl hdV_yX0_whoRise_RX0 ⟨Nat.le_of_ble_eq_true rfl, Nat.le_of_ble_eq_true rfl⟩) (preG_V (ci := 0) (q := (RX0, TX0, 1)) (hP.sub [0, 1, 2, 5, 6] rfl) (hD.sub [0, 1, 2, 5, 6] rfl rfl) hK rfl rfl) rfl rfl hl.1 rfl (lv_room (Nat.le_of_ble_eq_true rfl)) dX0_leastBand_3 ⟨Nat.le_of_ble_eq_true rfl, Nat.le_of_ble_eq_true rfl⟩) hP hD hS hA [0, 1, 2, 5, 6] rfl (fun H locs hP hD hS => ?_)
  clear hcall
  refine z_topi (fun z2 ez => ?_)
  replace hf := bnd_s hf ez
  clear ez
  refine lv_istore_n (lv' := [(3, .int (Int32.ofInt z2)), (0, .ref a_p0), (1, .int (Int32.ofInt x1)), (2, .int (Int32.ofInt x2))]) hx hb dX0_leastBand_6 rfl hl (by decide) rfl (fun ls hl => ?_)
  refine lv_aload_n hx hb dX0_leastBand_7 rfl (lv_at hl 1 rfl) ?_
  refine va_get (D := D) (ci := 0) (v := .ref a_p0_kitchen) (C := RX0) (T := TX0) (N := 1) hx hb hts inX0_leastBand_X0 hown hK hP 0 rfl rfl 0 (by decide) (hts _ mwX0_leastBand_1) (fun _ h9 => h9) rfl dX0_leastBand_8 ?_
  refine va_get (D := D) (ci := 2) (v := .ref a_p0_kitchen_rules) (C := RX2) (T := TX2) (N := 5) hx hb hts inX0_leastBand_X2 hown hK hP 1 rfl rfl 0 (by decide) (hts _ mwX0_leastBand_3) (fun _ h9 => h9) rfl dX0_leastBand_11 ?_
  refine va_get (D := D) (ci := 6) (v := .int (Int32.ofInt i_p0_kitchen_rules_seats)) (C := RX6) (T := TX6) (N := 7) hx hb hts inX0_leastBand_X6 hown hK hP 2 rfl rfl 0 (by decide) (hts _ mwX0_leastBand_5) (fun _ h9 => h9) rfl dX0_leastBand_14 ?_
  refine lv_iconst (v := Int32.ofInt (1 : Int)) hx hb dX0_leastBand_17 (by decide) ?_
  refine lv_isub hx hb dX0_leastBand_18 (z_ci (Int32.ofInt_sub i_p0_kitchen_rules_seats (1 : Int)) ?_)
  refine z_topi (fun z3 ez => ?_)
  replace hf := bnd_s hf ez
  clear ez
  refine lv_istore (lv' := [(4, .int (Int32.ofInt z3)), (3, .int (Int32.ofInt z2)), (0, .ref a_p0), (1, .int (Int32.ofInt x1)), (2, .int (Int32.ofInt x2))]) hx hb dX0_leastBand_19 hl (by decide) rfl (fun ls hl => ?_)
  have hq := lq2_i hf
  clear hf
  obtain ⟨B6, eB6, NB6, hf⟩ := hq
  have hB6 : ∀ (n : Nat) (z4 : Int) (z5 : Int) (ls : Array Slot) (H : Heap) (locs : List Loc), lv_has ls 6 [(4, .int (Int32.ofInt z4)), (3, .int (Int32.ofInt z5)), (0, .ref a_p0), (2, .int (Int32.ofInt x2))] → va_P D vwCl [(a_p0, .inr (0, [.ref a_p0_kitchen])), (a_p0_kitchen, .inr (2, [.ref a_p0_kitchen_rules, .ref a_p0_kitchen_state, .ref a_p0_kitchen_places, .ref a_p0_kitchen_holders, .ref a_p0_kitchen_stirred])), (a_p0_kitchen_rules, .inr (6, [.int (Int32.ofInt i_p0_kitchen_rules_seats), .int (Int32.ofInt i_p0_kitchen_rules_stirs), .ref a_p0_kitchen_rules_need, .ref a_p0_kitchen_rules_kind, .ref a_p0_kitchen_rules_first, .ref a_p0_kitchen_rules_second, .ref a_p0_kitchen_rules_after])), (a_p0_kitchen_state, .inr (8, [.ref a_p0_kitchen_state_pieces, .ref a_p0_kitchen_state_friends, .ref a_p0_kitchen_state_spoons, .ref a_p0_kitchen_state_eaten, .ref a_p0_kitchen_state_seen, .int (Int32.ofInt i_p0_kitchen_state_seenDays), .int (Int32.ofInt i_p0_kitchen_state_bone), .int (Int32.ofInt i_p0_kitchen_state_king), .int (Int32.ofInt i_p0_kitchen_state_days)])), (a_p0_kitchen_state_spoons, .inl (G 1, 7, .inl (zA v_p0_kitchen_state_spoons))), (a_p0_kitchen_places, .inl (G 1, 49, .inl (zA v_p0_kitchen_places))), (a_p0_kitchen_stirred, .inl (G 1, 7, .inl (zA v_p0_kitchen_stirred)))] H → va_D A [(a_p0, .inr (0, [.ref a_p0_kitchen])), (a_p0_kitchen, .inr (2, [.ref a_p0_kitchen_rules, .ref a_p0_kitchen_state, .ref a_p0_kitchen_places, .ref a_p0_kitchen_holders, .ref a_p0_kitchen_stirred])), (a_p0_kitchen_rules, .inr (6, [.int (Int32.ofInt i_p0_kitchen_rules_seats), .int (Int32.ofInt i_p0_kitchen_rules_stirs), .ref a_p0_kitchen_rules_need, .ref a_p0_kitchen_rules_kind, .ref a_p0_kitchen_rules_first, .ref a_p0_kitchen_rules_second, .ref a_p0_kitchen_rules_after])), (a_p0_kitchen_state, .inr (8, [.ref a_p0_kitchen_state_pieces, .ref a_p0_kitchen_state_friends, .ref a_p0_kitchen_state_spoons, .ref a_p0_kitchen_state_eaten, .ref a_p0_kitchen_state_seen, .int (Int32.ofInt i_p0_kitchen_state_seenDays), .int (Int32.ofInt i_p0_kitchen_state_bone), .int (Int32.ofInt i_p0_kitchen_state_king), .int (Int32.ofInt i_p0_kitchen_state_days)])), (a_p0_kitchen_state_spoons, .inl (G 1, 7, .inl (zA v_p0_kitchen_state_spoons))), (a_p0_kitchen_places, .inl (G 1, 49, .inl (zA v_p0_kitchen_places))), (a_p0_kitchen_stirred, .inl (G 1, 7, .inl (zA v_p0_kitchen_stirred)))] → va_S A s.heap H locs → lq2 B6 n z4 z5 = some r → W p l e rm_X0_leastBand s m ([.ref a_p0, .int (Int32.ofInt x1), .int (Int32.ofInt x2)] : List Value).toArray below meth c H locs 0 0 Q (F0 m 21 ls []) := by
    clear hf hl hP hD hS
    intro n
    induction n with
    | zero =>
      intro z4 z5 ls H locs hl hP hD hS hf
      exact (lq2_0 hf).elim
    | succ n ih21 =>
      intro z4 z5 ls H locs hl hP hD hS hf
      replace hf := lq2_s eB6 hf
      unfold B_X0_leastBand_21 at hf
      refine lv_iload hx hb dX0_leastBand_21 (lv_at hl 0 rfl) ?_
      have hr6 := ck_c hf
      replace hf := ck_r hf
      refine lv_if_lt (tgt := 60) hx hb dX0_leastBand_23 (by decide) (fun cc => ?_) (fun cc => ?_)
      ·
        replace hf := ite_t ((z_lt0 hr6).mp cc) hf
        clear cc
        refine lv_iload_n hx hb dX0_leastBand_60 rfl (lv_at hl 1 rfl) ?_
        obtain rfl := ou1 hf
        rw [hQ]
        exact W.iret hx hb hr (fun t ht hW => ⟨⟨_, (), rfl, rfl, by rw [ht]; exact hP, va_K.moved hW.alike hK, hD⟩, hS.F ht⟩) hS.2.2 dX0_leastBand_61
      ·
        replace hf := ite_f (fun h9 => cc ((z_lt0 hr6).mpr h9)) hf
        clear cc
        refine lv_iload_n hx hb dX0_leastBand_26 rfl (lv_at hl 1 rfl) ?_
        refine lv_iconst (v := Int32.ofInt (1 : Int)) hx hb dX0_leastBand_27 (by decide) ?_
        refine lv_iload hx hb dX0_leastBand_28 (lv_at hl 0 rfl) ?_
        refine lv_ishl hx hb dX0_leastBand_30 (z_ci (z_shl_e (1 : Int) z4) ?_)
        refine lv_iconst (v := Int32.ofInt (-1 : Int)) hx hb dX0_leastBand_31 (by decide) ?_
        refine lv_ixor hx hb dX0_leastBand_32 (z_ci (z_xor_e (z_shl (1 : Int) z4) (-1 : Int)) ?_)
        refine lv_iand hx hb dX0_leastBand_33 (z_ci (z_and_e z5 (z_xor (z_shl (1 : Int) z4) (-1 : Int))) ?_)
        refine z_topi (fun z8 ez => ?_)
        replace hf := bnd_s hf ez
        clear ez
        refine lv_istore (lv' := [(5, .int (Int32.ofInt z8)), (4, .int (Int32.ofInt z4)), (3, .int (Int32.ofInt z5)), (0, .ref a_p0), (2, .int (Int32.ofInt x2))]) hx hb dX0_leastBand_34 hl (by decide) rfl (fun ls hl => ?_)
        refine lv_iload hx hb dX0_leastBand_36 (lv_at hl 1 rfl) ?_
        refine lv_iload_n hx hb dX0_leastBand_38 rfl (lv_at hl 4 rfl) ?_
        have hr8 := ck_c hf
        replace hf := ck_r hf
        refine lv_icmp_eq (tgt := 54) hx hb dX0_leastBand_39 (by decide) (fun cc => ?_) (fun cc => ?_)
        ·
          replace hf := ite_t ((z_eq hr6 hr8).mp cc) hf
          clear cc
          obtain ⟨z10, ez⟩ : ∃ y : Int, y = (z4 + (-1 : Int)) := ⟨_, rfl⟩
          replace hf := bnd_s hf ez
          refine lv_iinc (v := Int32.ofInt z10) (lv' := [(4, .int (Int32.ofInt z10)), (5, .int (Int32.ofInt z8)), (3, .int (Int32.ofInt z5)), (0, .ref a_p0), (2, .int (Int32.ofInt x2))]) hx hb dX0_leastBand_54 hl (k := 1) rfl (by rw [ez]; exact (Int32.ofInt_add _ _).symm) (by decide) rfl (fun ls hl => ?_)
          clear ez
          refine lv_goto (tgt := 21) hx hb dX0_leastBand_57 (by decide) ?_
          exact ih21 _ _ _ _ _ (lv_sub hl [0, 2, 3, 4] rfl) hP hD hS hf
        ·
          replace hf := ite_f (fun h9 => cc ((z_eq hr6 hr8).mpr h9)) hf
          clear cc
          refine lv_aload_n hx hb dX0_leastBand_42 rfl (lv_at hl 3 rfl) ?_
          refine lv_iload hx hb dX0_leastBand_43 (lv_at hl 0 rfl) ?_
          have hq := bd1_s hf
          clear hf
          obtain ⟨z11, hcall, hf⟩ := hq
          refine gnI (va_runV (As := [.int (Int32.ofInt z8)]) (rest := []) ⟨hx, hb, hml, hown, hts⟩ (c_X0_isEnough (l := l) (D := D) (G := G) (sz := H.size) (a_p0 := a_p0) (a_p0_kitchen := a_p0_kitchen) (a_p0_kitchen_rules := a_p0_kitchen_rules) (a_p0_kitchen_state := a_p0_kitchen_state) (a_p0_kitchen_places := a_p0_kitchen_places) (a_p0_kitchen_holders := a_p0_kitchen_holders) (a_p0_kitchen_stirred := a_p0_kitchen_stirred) (a_p0_kitchen_rules_need := a_p0_kitchen_rules_need) (a_p0_kitchen_rules_kind := a_p0_kitchen_rules_kind) (a_p0_kitchen_rules_first := a_p0_kitchen_rules_first) (a_p0_kitchen_rules_second := a_p0_kitchen_rules_second) (a_p0_kitchen_rules_after := a_p0_kitchen_rules_after) (a_p0_kitchen_state_pieces := a_p0_kitchen_state_pieces) (a_p0_kitchen_state_friends := a_p0_kitchen_state_friends) (a_p0_kitchen_state_spoons := a_p0_kitchen_state_spoons) (a_p0_kitchen_state_eaten := a_p0_kitchen_state_eaten) (a_p0_kitchen_state_seen := a_p0_kitchen_state_seen) (i_p0_kitchen_rules_seats := i_p0_kitchen_rules_seats) (i_p0_kitchen_rules_stirs := i_p0_kitchen_rules_stirs) (i_p0_kitchen_state_seenDays := i_p0_kitchen_state_seenDays) (i_p0_kitchen_state_bone := i_p0_kitchen_state_bone) (i_p0_kitchen_state_king := i_p0_kitchen_state_king) (i_p0_kitchen_state_days := i_p0_kitchen_state_days) (v_p0_kitchen_state_spoons := v_p0_kitchen_state_spoons) (x1 := z8) (r := z11) (hf := hcall)) (cwV 1 hts gX0_leastBand_X0_isEnough rfl rfl rfl hdV_yX0_isEnough_RX0 ⟨Nat.le_of_ble_eq_true rfl, Nat.le_of_ble_eq_true rfl⟩) (preG_V (ci := 0) (q := (RX0, TX0, 1)) (hP.sub [0, 1, 2, 3, 4] rfl) (hD.sub [0, 1, 2, 3, 4] rfl rfl) hK rfl rfl) rfl rfl hl.1 rfl (lv_room (Nat.le_of_ble_eq_true rfl)) dX0_leastBand_45 ⟨Nat.le_of_ble_eq_true rfl, Nat.le_of_ble_eq_true rfl⟩) hP hD hS hA [0, 1, 2, 3, 4] rfl (fun H locs hP hD hS => ?_)
          clear hcall
          have hr11 := ck_c hf
          replace hf := ck_r hf
          refine lv_if_eq (tgt := 54) hx hb dX0_leastBand_48 (by decide) (fun cc => ?_) (fun cc => ?_)
          ·
            replace hf := ite_t ((z_eq0 hr11).mp cc) hf
            clear cc
            obtain ⟨z13, ez⟩ : ∃ y : Int, y = (z4 + (-1 : Int)) := ⟨_, rfl⟩
            replace hf := bnd_s hf ez
            refine lv_iinc (v := Int32.ofInt z13) (lv' := [(4, .int (Int32.ofInt z13)), (5, .int (Int32.ofInt z8)), (3, .int (Int32.ofInt z5)), (0, .ref a_p0), (2, .int (Int32.ofInt x2))]) hx hb dX0_leastBand_54 hl (k := 1) rfl (by rw [ez]; exact (Int32.ofInt_add _ _).symm) (by decide) rfl (fun ls hl => ?_)
            clear ez
            refine lv_goto (tgt := 21) hx hb dX0_leastBand_57 (by decide) ?_
            exact ih21 _ _ _ _ _ (lv_sub hl [0, 2, 3, 4] rfl) hP hD hS hf
          ·
            replace hf := ite_f (fun h9 => cc ((z_eq0 hr11).mpr h9)) hf
            clear cc
            refine lv_iload hx hb dX0_leastBand_51 (lv_at hl 0 rfl) ?_
            refine z_topi (fun z14 ez => ?_)
            replace hf := bnd_s hf ez
            clear ez
            refine lv_istore_n (lv' := [(3, .int (Int32.ofInt z14)), (5, .int (Int32.ofInt z8)), (4, .int (Int32.ofInt z4)), (0, .ref a_p0), (2, .int (Int32.ofInt x2))]) hx hb dX0_leastBand_53 rfl hl (by decide) rfl (fun ls hl => ?_)
            obtain ⟨z15, ez⟩ : ∃ y : Int, y = (z4 + (-1 : Int)) := ⟨_, rfl⟩
            replace hf := bnd_s hf ez
            refine lv_iinc (v := Int32.ofInt z15) (lv' := [(4, .int (Int32.ofInt z15)), (3, .int (Int32.ofInt z14)), (5, .int (Int32.ofInt z8)), (0, .ref a_p0), (2, .int (Int32.ofInt x2))]) hx hb dX0_leastBand_54 hl (k := 2) rfl (by rw [ez]; exact (Int32.ofInt_add _ _).symm) (by decide) rfl (fun ls hl => ?_)
            clear ez
            refine lv_goto (tgt := 21) hx hb dX0_leastBand_57 (by decide) ?_
            exact ih21 _ _ _ _ _ (lv_sub hl [0, 1, 3, 4] rfl) hP hD hS hf
  exact hB6 _ _ _ _ _ _ (lv_sub hl [0, 1, 2, 4] rfl) hP hD hS hf

noncomputable def B_X6_inRing_4 (i_p0_seats : Int) (again4 : Int → Int → Option (Int)) (z3 : Int) (z4 : Int) : Option (Int) := (ck (z_r32 z3) (if (7 : Int) ≤ z3 then (some z4) else (ck (z_r32 z4) (ck (z_r32 i_p0_seats) (if z4 < i_p0_seats then (some z4) else (bnd (z4 - i_p0_seats) (fun (z9 : Int) => (bnd (z3 + (1 : Int)) (fun (z10 : Int) => (again4 z10 z9))))))))))
noncomputable def f_X6_inRing (i_p0_seats : Int) (x1 : Int) : Option (Int) := (bnd x1 (fun (z1 : Int) => (bnd (0 : Int) (fun (z2 : Int) => (lq2 (B_X6_inRing_4 i_p0_seats) 1000 z2 z1)))))
abbrev rm_X6_inRing : Room := { frames := 0, cells := 0, slots := 0, locals := 0 }
theorem inX6_inRing_X6 : ∀ w ∈ wsX60, w ∈ wsX6_inRing := by first | exact fun w h => List.mem_cons_of_mem _ (List.mem_append_right _ h) | decide +kernel
theorem mwX6_inRing_1 : Cond.fieldLink RX6 9 "LadleKings$Rules" "seats" "I" ∈ wsX6_inRing := by first | exact List.mem_of_getElem? (i := 1) rfl | decide +kernel
set_option maxHeartbeats 8000000 in
set_option maxRecDepth 100000 in
theorem c_X6_inRing (l : Launch) (D : va_G) (G : Nat → ClassId) (sz : Nat) (a_p0 : Nat) (a_p0_need : Nat) (a_p0_kind : Nat) (a_p0_first : Nat) (a_p0_second : Nat) (a_p0_after : Nat) (i_p0_seats : Int) (i_p0_stirs : Int) (x1 : Int) (r : Int) (hf : f_X6_inRing i_p0_seats x1 = some r) : Met l yX6_inRing wsX6_inRing rm_X6_inRing (pcG D G [.ref a_p0, .int (Int32.ofInt x1)] sz [(a_p0, .inr (6, [.int (Int32.ofInt i_p0_seats), .int (Int32.ofInt i_p0_stirs), .ref a_p0_need, .ref a_p0_kind, .ref a_p0_first, .ref a_p0_second, .ref a_p0_after]))]) (qcI D G (Int32.ofInt r) [(a_p0, .inr (6, [.int (Int32.ofInt i_p0_seats), .int (Int32.ofInt i_p0_stirs), .ref a_p0_need, .ref a_p0_kind, .ref a_p0_first, .ref a_p0_second, .ref a_p0_after]))] (va_A [(a_p0, .inr (6, [.int (Int32.ofInt i_p0_seats), .int (Int32.ofInt i_p0_stirs), .ref a_p0_need, .ref a_p0_kind, .ref a_p0_first, .ref a_p0_second, .ref a_p0_after]))] sz)) 0 0 (va_A [(a_p0, .inr (6, [.int (Int32.ofInt i_p0_seats), .int (Int32.ofInt i_p0_stirs), .ref a_p0_need, .ref a_p0_kind, .ref a_p0_first, .ref a_p0_second, .ref a_p0_after]))] sz) := by
  refine Met.ofW (cc := cX6_inRing) (maxL := 4) (ret := (some .int)) (by decide) rfl ?_
  intro p e s m args below meth c s₁ B hml hv
  obtain ⟨rfl, hsz, hP, hK, hD0⟩ := hv
  have hx := B.exec
  have hb := B.bytes
  have hr := B.returns
  have hts := atoms_spec (ws := wsX6_inRing) B.pre
  have hown : s.vm.findClass RX6 = some m.cls := findClass_of_methodNamed B.named
  have hlocks := B.notSynchronized
  subst hsz
  have hD := hD0.self (sz := s.heap.size)
  generalize hAe : va_A [(a_p0, .inr (6, [.int (Int32.ofInt i_p0_seats), .int (Int32.ofInt i_p0_stirs), .ref a_p0_need, .ref a_p0_kind, .ref a_p0_first, .ref a_p0_second, .ref a_p0_after]))] s.heap.size = A at hD ⊢
  have hA : ∀ q : Nat, s.heap.size ≤ q → A q := fun q h => by rw [← hAe]; exact Or.inr h
  clear hAe hD0
  have hS : va_S A s.heap s.heap [] := va_S.rf
  have hl := lv_entry ([.ref a_p0, .int (Int32.ofInt x1)]) (n := 4) (Nat.le_of_ble_eq_true rfl)
  rw [lg_entry_eq]
  generalize (lg_sl ([.ref a_p0, .int (Int32.ofInt x1)]) ++ List.replicate (4 - (lg_sl ([.ref a_p0, .int (Int32.ofInt x1)])).length) Slot.unset).toArray = ls at hl ⊢
  have hl : lv_has ls 4 [(0, .ref a_p0), (1, .int (Int32.ofInt x1))] := hl
  refine W_nameQ (fun Q hQ => ?_)
  obtain ⟨H, hH⟩ : ∃ H, H = s.heap := ⟨_, rfl⟩
  replace hS : va_S A s.heap H [] := by rw [hH]; exact hS
  replace hP : va_P D vwCl [(a_p0, .inr (6, [.int (Int32.ofInt i_p0_seats), .int (Int32.ofInt i_p0_stirs), .ref a_p0_need, .ref a_p0_kind, .ref a_p0_first, .ref a_p0_second, .ref a_p0_after]))] H := by rw [hH]; exact hP
  rw [← hH]
  clear hH
  unfold f_X6_inRing at hf
  refine lv_iload_n hx hb dX6_inRing_0 rfl (lv_at hl 1 rfl) ?_
  refine z_topi (fun z1 ez => ?_)
  replace hf := bnd_s hf ez
  clear ez
  refine lv_istore_n (lv' := [(2, .int (Int32.ofInt z1)), (0, .ref a_p0), (1, .int (Int32.ofInt x1))]) hx hb dX6_inRing_1 rfl hl (by decide) rfl (fun ls hl => ?_)
  refine lv_iconst (v := Int32.ofInt (0 : Int)) hx hb dX6_inRing_2 (by decide) ?_
  refine z_topi (fun z2 ez => ?_)
  replace hf := bnd_s hf ez
  clear ez
  refine lv_istore_n (lv' := [(3, .int (Int32.ofInt z2)), (2, .int (Int32.ofInt z1)), (0, .ref a_p0), (1, .int (Int32.ofInt x1))]) hx hb dX6_inRing_3 rfl hl (by decide) rfl (fun ls hl => ?_)
  have hq := lq2_i hf
  clear hf
  obtain ⟨B5, eB5, NB5, hf⟩ := hq
  have hB5 : ∀ (n : Nat) (z3 : Int) (z4 : Int) (ls : Array Slot) (H : Heap) (locs : List Loc), lv_has ls 4 [(3, .int (Int32.ofInt z3)), (2, .int (Int32.ofInt z4)), (0, .ref a_p0)] → va_P D vwCl [(a_p0, .inr (6, [.int (Int32.ofInt i_p0_seats), .int (Int32.ofInt i_p0_stirs), .ref a_p0_need, .ref a_p0_kind, .ref a_p0_first, .ref a_p0_second, .ref a_p0_after]))] H → va_D A [(a_p0, .inr (6, [.int (Int32.ofInt i_p0_seats), .int (Int32.ofInt i_p0_stirs), .ref a_p0_need, .ref a_p0_kind, .ref a_p0_first, .ref a_p0_second, .ref a_p0_after]))] → va_S A s.heap H locs → lq2 B5 n z3 z4 = some r → W p l e rm_X6_inRing s m ([.ref a_p0, .int (Int32.ofInt x1)] : List Value).toArray below meth c H locs 0 0 Q (F0 m 4 ls []) := by
    clear hf hl hP hD hS
    intro n
    induction n with
    | zero =>
      intro z3 z4 ls H locs hl hP hD hS hf
      exact (lq2_0 hf).elim
    | succ n ih4 =>
      intro z3 z4 ls H locs hl hP hD hS hf
      replace hf := lq2_s eB5 hf
      unfold B_X6_inRing_4 at hf
      refine lv_iload_n hx hb dX6_inRing_4 rfl (lv_at hl 0 rfl) ?_
      refine lv_bipush (v := Int32.ofInt (7 : Int)) hx hb dX6_inRing_5 (by decide) ?_
      have hr5 := ck_c hf
      replace hf := ck_r hf
      refine lv_icmp_ge (tgt := 31) hx hb dX6_inRing_7 (by decide) (fun cc => ?_) (fun cc => ?_)
      ·
        replace hf := ite_t ((z_le (by decide) hr5).mp cc) hf
        clear cc
        refine lv_iload_n hx hb dX6_inRing_31 rfl (lv_at hl 1 rfl) ?_
        obtain rfl := ou1 hf
        rw [hQ]
        exact W.iret hx hb hr (fun t ht hW => ⟨⟨_, (), rfl, rfl, by rw [ht]; exact hP, va_K.moved hW.alike hK, hD⟩, hS.F ht⟩) hS.2.2 dX6_inRing_32
      ·
        replace hf := ite_f (fun h9 => cc ((z_le (by decide) hr5).mpr h9)) hf
        clear cc
        refine lv_iload_n hx hb dX6_inRing_10 rfl (lv_at hl 1 rfl) ?_
        refine lv_aload_n hx hb dX6_inRing_11 rfl (lv_at hl 2 rfl) ?_
        refine va_get (D := D) (ci := 6) (v := .int (Int32.ofInt i_p0_seats)) (C := RX6) (T := TX6) (N := 7) hx hb hts inX6_inRing_X6 hown hK hP 0 rfl rfl 0 (by decide) (hts _ mwX6_inRing_1) (fun _ h9 => h9) rfl dX6_inRing_12 ?_
        have hr6 := ck_c hf
        replace hf := ck_r hf
        have hr7 := ck_c hf
        replace hf := ck_r hf
        refine lv_icmp_lt (tgt := 31) hx hb dX6_inRing_15 (by decide) (fun cc => ?_) (fun cc => ?_)
        ·
          replace hf := ite_t ((z_lt hr6 hr7).mp cc) hf
          clear cc
          refine lv_iload_n hx hb dX6_inRing_31 rfl (lv_at hl 1 rfl) ?_
          obtain rfl := ou1 hf
          rw [hQ]
          exact W.iret hx hb hr (fun t ht hW => ⟨⟨_, (), rfl, rfl, by rw [ht]; exact hP, va_K.moved hW.alike hK, hD⟩, hS.F ht⟩) hS.2.2 dX6_inRing_32
        ·
          replace hf := ite_f (fun h9 => cc ((z_lt hr6 hr7).mpr h9)) hf
          clear cc
          refine lv_iload_n hx hb dX6_inRing_18 rfl (lv_at hl 1 rfl) ?_
          refine lv_aload_n hx hb dX6_inRing_19 rfl (lv_at hl 2 rfl) ?_
          refine va_get (D := D) (ci := 6) (v := .int (Int32.ofInt i_p0_seats)) (C := RX6) (T := TX6) (N := 7) hx hb hts inX6_inRing_X6 hown hK hP 0 rfl rfl 0 (by decide) (hts _ mwX6_inRing_1) (fun _ h9 => h9) rfl dX6_inRing_20 ?_
          refine lv_isub hx hb dX6_inRing_23 (z_ci (Int32.ofInt_sub z4 i_p0_seats) ?_)
          refine z_topi (fun z9 ez => ?_)
          replace hf := bnd_s hf ez
          clear ez
          refine lv_istore_n (lv' := [(2, .int (Int32.ofInt z9)), (3, .int (Int32.ofInt z3)), (0, .ref a_p0)]) hx hb dX6_inRing_24 rfl hl (by decide) rfl (fun ls hl => ?_)
          obtain ⟨z10, ez⟩ : ∃ y : Int, y = (z3 + (1 : Int)) := ⟨_, rfl⟩
          replace hf := bnd_s hf ez
          refine lv_iinc (v := Int32.ofInt z10) (lv' := [(3, .int (Int32.ofInt z10)), (2, .int (Int32.ofInt z9)), (0, .ref a_p0)]) hx hb dX6_inRing_25 hl (k := 1) rfl (by rw [ez]; exact (Int32.ofInt_add _ _).symm) (by decide) rfl (fun ls hl => ?_)
          clear ez
          refine lv_goto (tgt := 4) hx hb dX6_inRing_28 (by decide) ?_
          exact ih4 _ _ _ _ _ (lv_sub hl [0, 1, 2] rfl) hP hD hS hf
  exact hB5 _ _ _ _ _ _ (lv_sub hl [0, 1, 2] rfl) hP hD hS hf

noncomputable def f_X8_isFriend (v_p0_friends : (Int → Int)) (x1 : Int) (x2 : Int) : Option (Int) := (ck (z_ix x1 7) (ck (z_r32 (z_and (z_shr (v_p0_friends x1) x2) (1 : Int))) (if (z_and (z_shr (v_p0_friends x1) x2) (1 : Int)) = (0 : Int) then (some (0 : Int)) else (some (1 : Int)))))
abbrev rm_X8_isFriend : Room := { frames := 0, cells := 0, slots := 0, locals := 0 }
theorem inX8_isFriend_X8 : ∀ w ∈ wsX80, w ∈ wsX8_isFriend := by first | exact fun w h => List.mem_cons_of_mem _ (List.mem_append_right _ h) | decide +kernel
theorem mwX8_isFriend_1 : Cond.fieldLink RX8 15 "LadleKings$State" "friends" "[I" ∈ wsX8_isFriend := by first | exact List.mem_of_getElem? (i := 1) rfl | decide +kernel
set_option maxHeartbeats 8000000 in
set_option maxRecDepth 100000 in
theorem c_X8_isFriend (l : Launch) (D : va_G) (G : Nat → ClassId) (sz : Nat) (a_p0 : Nat) (a_p0_pieces : Nat) (a_p0_friends : Nat) (a_p0_spoons : Nat) (a_p0_eaten : Nat) (a_p0_seen : Nat) (i_p0_seenDays : Int) (i_p0_bone : Int) (i_p0_king : Int) (i_p0_days : Int) (v_p0_friends : (Int → Int)) (x1 : Int) (x2 : Int) (r : Int) (hf : f_X8_isFriend v_p0_friends x1 x2 = some r) : Met l yX8_isFriend wsX8_isFriend rm_X8_isFriend (pcG D G [.ref a_p0, .int (Int32.ofInt x1), .int (Int32.ofInt x2)] sz [(a_p0, .inr (8, [.ref a_p0_pieces, .ref a_p0_friends, .ref a_p0_spoons, .ref a_p0_eaten, .ref a_p0_seen, .int (Int32.ofInt i_p0_seenDays), .int (Int32.ofInt i_p0_bone), .int (Int32.ofInt i_p0_king), .int (Int32.ofInt i_p0_days)])), (a_p0_friends, .inl (G 1, 7, .inl (zA v_p0_friends)))]) (qcI D G (Int32.ofInt r) [(a_p0, .inr (8, [.ref a_p0_pieces, .ref a_p0_friends, .ref a_p0_spoons, .ref a_p0_eaten, .ref a_p0_seen, .int (Int32.ofInt i_p0_seenDays), .int (Int32.ofInt i_p0_bone), .int (Int32.ofInt i_p0_king), .int (Int32.ofInt i_p0_days)])), (a_p0_friends, .inl (G 1, 7, .inl (zA v_p0_friends)))] (va_A [(a_p0, .inr (8, [.ref a_p0_pieces, .ref a_p0_friends, .ref a_p0_spoons, .ref a_p0_eaten, .ref a_p0_seen, .int (Int32.ofInt i_p0_seenDays), .int (Int32.ofInt i_p0_bone), .int (Int32.ofInt i_p0_king), .int (Int32.ofInt i_p0_days)])), (a_p0_friends, .inl (G 1, 7, .inl (zA v_p0_friends)))] sz)) 0 0 (va_A [(a_p0, .inr (8, [.ref a_p0_pieces, .ref a_p0_friends, .ref a_p0_spoons, .ref a_p0_eaten, .ref a_p0_seen, .int (Int32.ofInt i_p0_seenDays), .int (Int32.ofInt i_p0_bone), .int (Int32.ofInt i_p0_king), .int (Int32.ofInt i_p0_days)])), (a_p0_friends, .inl (G 1, 7, .inl (zA v_p0_friends)))] sz) := by
  refine Met.ofW (cc := cX8_isFriend) (maxL := 3) (ret := (some .boolean)) (by decide) rfl ?_
  intro p e s m args below meth c s₁ B hml hv
  obtain ⟨rfl, hsz, hP, hK, hD0⟩ := hv
  have hx := B.exec
  have hb := B.bytes
  have hr := B.returns
  have hts := atoms_spec (ws := wsX8_isFriend) B.pre
  have hown : s.vm.findClass RX8 = some m.cls := findClass_of_methodNamed B.named
  have hlocks := B.notSynchronized
  subst hsz
  have hD := hD0.self (sz := s.heap.size)
  generalize hAe : va_A [(a_p0, .inr (8, [.ref a_p0_pieces, .ref a_p0_friends, .ref a_p0_spoons, .ref a_p0_eaten, .ref a_p0_seen, .int (Int32.ofInt i_p0_seenDays), .int (Int32.ofInt i_p0_bone), .int (Int32.ofInt i_p0_king), .int (Int32.ofInt i_p0_days)])), (a_p0_friends, .inl (G 1, 7, .inl (zA v_p0_friends)))] s.heap.size = A at hD ⊢
  have hA : ∀ q : Nat, s.heap.size ≤ q → A q := fun q h => by rw [← hAe]; exact Or.inr h
  clear hAe hD0
  have hS : va_S A s.heap s.heap [] := va_S.rf
  have hl := lv_entry ([.ref a_p0, .int (Int32.ofInt x1), .int (Int32.ofInt x2)]) (n := 3) (Nat.le_of_ble_eq_true rfl)
  rw [lg_entry_eq]
  generalize (lg_sl ([.ref a_p0, .int (Int32.ofInt x1), .int (Int32.ofInt x2)]) ++ List.replicate (3 - (lg_sl ([.ref a_p0, .int (Int32.ofInt x1), .int (Int32.ofInt x2)])).length) Slot.unset).toArray = ls at hl ⊢
  have hl : lv_has ls 3 [(0, .ref a_p0), (1, .int (Int32.ofInt x1)), (2, .int (Int32.ofInt x2))] := hl
  refine W_nameQ (fun Q hQ => ?_)
  obtain ⟨H, hH⟩ : ∃ H, H = s.heap := ⟨_, rfl⟩
  replace hS : va_S A s.heap H [] := by rw [hH]; exact hS
  replace hP : va_P D vwCl [(a_p0, .inr (8, [.ref a_p0_pieces, .ref a_p0_friends, .ref a_p0_spoons, .ref a_p0_eaten, .ref a_p0_seen, .int (Int32.ofInt i_p0_seenDays), .int (Int32.ofInt i_p0_bone), .int (Int32.ofInt i_p0_king), .int (Int32.ofInt i_p0_days)])), (a_p0_friends, .inl (G 1, 7, .inl (zA v_p0_friends)))] H := by rw [hH]; exact hP
  rw [← hH]
  clear hH
  unfold f_X8_isFriend at hf
  refine lv_aload_n hx hb dX8_isFriend_0 rfl (lv_at hl 0 rfl) ?_
  refine va_get (D := D) (ci := 8) (v := .ref a_p0_friends) (C := RX8) (T := TX8) (N := 9) hx hb hts inX8_isFriend_X8 hown hK hP 0 rfl rfl 1 (by decide) (hts _ mwX8_isFriend_1) (fun _ h9 => h9) rfl dX8_isFriend_1 ?_
  refine lv_iload_n hx hb dX8_isFriend_4 rfl (lv_at hl 1 rfl) ?_
  have hc := ck_c hf
  replace hf := ck_r hf
  refine va_iald hx hb hK hP 1 1 rfl rfl (z_ix_in hc) dX8_isFriend_5 (z_ci (z_ald v_p0_friends hc) ?_)
  clear hc
  refine lv_iload_n hx hb dX8_isFriend_6 rfl (lv_at hl 2 rfl) ?_
  refine lv_ishr hx hb dX8_isFriend_7 (z_ci (z_shr_e (v_p0_friends x1) x2) ?_)
  refine lv_iconst (v := Int32.ofInt (1 : Int)) hx hb dX8_isFriend_8 (by decide) ?_
  refine lv_iand hx hb dX8_isFriend_9 (z_ci (z_and_e (z_shr (v_p0_friends x1) x2) (1 : Int)) ?_)
  have hr0 := ck_c hf
  replace hf := ck_r hf
  refine lv_if_eq (tgt := 17) hx hb dX8_isFriend_10 (by decide) (fun cc => ?_) (fun cc => ?_)
  ·
    replace hf := ite_t ((z_eq0 hr0).mp cc) hf
    clear cc
    refine lv_iconst (v := Int32.ofInt (0 : Int)) hx hb dX8_isFriend_17 (by decide) ?_
    obtain rfl := ou1 hf
    rw [hQ]
    exact W.zret hx hb hr rfl (fun t ht hW => ⟨⟨_, (), rfl, rfl, by rw [ht]; exact hP, va_K.moved hW.alike hK, hD⟩, hS.F ht⟩) hS.2.2 dX8_isFriend_18
  ·
    replace hf := ite_f (fun h9 => cc ((z_eq0 hr0).mpr h9)) hf
    clear cc
    refine lv_iconst (v := Int32.ofInt (1 : Int)) hx hb dX8_isFriend_13 (by decide) ?_
    refine lv_goto (tgt := 18) hx hb dX8_isFriend_14 (by decide) ?_
    obtain rfl := ou1 hf
    rw [hQ]
    exact W.zret hx hb hr rfl (fun t ht hW => ⟨⟨_, (), rfl, rfl, by rw [ht]; exact hP, va_K.moved hW.alike hK, hD⟩, hS.F ht⟩) hS.2.2 dX8_isFriend_18

noncomputable def B_X2_serve_15 (i_p0_rules_seats : Int) (x1 : Int) (v_p0_state_friends : (Int → Int)) (again15 : Int → Int → Int → (Int → Int) → (Int → Int) → Option ((Int → Int) × (Int → Int))) (z4 : Int) (z5 : Int) (z6 : Int) (w7 : (Int → Int)) (w8 : (Int → Int)) : Option ((Int → Int) × (Int → Int)) := (ck (z_r32 z4) (ck (z_r32 i_p0_rules_seats) (if i_p0_rules_seats ≤ z4 then (some (w7, w8)) else (bd1 (f_X6_inRing i_p0_rules_seats (x1 + z4)) (fun (z12 : Int) => (bnd z12 (fun (z13 : Int) => (ck (z_r32 z13) (ck (z_r32 x1) (jn (fun (z16 : Int) (z17 : Int) (z18 : Int) => (ck (z_ix ((x1 * (7 : Int)) + z13) 49) (bnd (z_up w7 ((x1 * (7 : Int)) + z13) z18) (fun (w20 : (Int → Int)) => (ck (z_ix ((x1 * (7 : Int)) + z18) 49) (bnd (z_up w8 ((x1 * (7 : Int)) + z18) z13) (fun (w21 : (Int → Int)) => (bnd (z4 + (1 : Int)) (fun (z22 : Int) => (again15 z22 z17 z16 w20 w21)))))))))) (fun (J19 : Int → Int → Int → Option ((Int → Int) × (Int → Int))) => (jn (bnd z5 (fun (z24 : Int) => (bnd (z5 + (-1 : Int)) (fun (z25 : Int) => (J19 z6 z25 z24))))) (fun (J23 : Option ((Int → Int) × (Int → Int))) => (if z13 = x1 then (J23) else (bd1 (f_X8_isFriend v_p0_state_friends x1 z13) (fun (z26 : Int) => (ck (z_r32 z26) (if z26 = (0 : Int) then (bnd z6 (fun (z28 : Int) => (bnd (z6 + (1 : Int)) (fun (z29 : Int) => (J19 z29 z5 z28))))) else (J23)))))))))))))))))))
noncomputable def f_X2_serve (i_p0_rules_seats : Int) (v_p0_state_friends : (Int → Int)) (v_p0_places : (Int → Int)) (v_p0_holders : (Int → Int)) (x1 : Int) : Option ((Int → Int) × (Int → Int)) := (bnd (0 : Int) (fun (z1 : Int) => (bnd (i_p0_rules_seats - (1 : Int)) (fun (z2 : Int) => (bnd (0 : Int) (fun (z3 : Int) => (lq5 (B_X2_serve_15 i_p0_rules_seats x1 v_p0_state_friends) 1000 z3 z2 z1 v_p0_places v_p0_holders)))))))
abbrev rm_X2_serve : Room := { frames := 1, cells := 0, slots := 0, locals := 23 }
theorem inX2_serve_X2 : ∀ w ∈ wsX20, w ∈ wsX2_serve := by first | exact fun w h => List.mem_cons_of_mem _ (List.mem_append_left _ (List.mem_append_left _ (List.mem_append_right _ h))) | decide +kernel
theorem mwX2_serve_1 : Cond.fieldLink RX2 21 "LadleKings$Kitchen" "rules" "LLadleKings$Rules;" ∈ wsX2_serve := by first | exact List.mem_of_getElem? (i := 1) rfl | decide +kernel
theorem inX2_serve_X6 : ∀ w ∈ wsX60, w ∈ wsX2_serve := by first | exact fun w h => List.mem_cons_of_mem _ (List.mem_append_left _ (List.mem_append_right _ h)) | decide +kernel
theorem mwX2_serve_3 : Cond.fieldLink RX2 29 "LadleKings$Rules" "seats" "I" ∈ wsX2_serve := by first | exact List.mem_of_getElem? (i := 2) rfl | decide +kernel
theorem hdV_yX6_inRing_RX6 : yX6_inRing.cls = RX6 ∧ yX6_inRing.cls ≠ "java/lang/invoke/MethodHandle" ∧ yX6_inRing.cls ≠ "java/lang/invoke/VarHandle" ∧ (parseMethodDescriptor yX6_inRing.desc).map (fun d => d.parameters.length) = some 1 := by decide +kernel
theorem mwX2_serve_5 : Cond.fieldLink RX2 9 "LadleKings$Kitchen" "places" "[I" ∈ wsX2_serve := by first | exact List.mem_of_getElem? (i := 4) rfl | decide +kernel
theorem mwX2_serve_6 : Cond.fieldLink RX2 15 "LadleKings$Kitchen" "holders" "[I" ∈ wsX2_serve := by first | exact List.mem_of_getElem? (i := 5) rfl | decide +kernel
theorem mwX2_serve_7 : Cond.fieldLink RX2 25 "LadleKings$Kitchen" "state" "LLadleKings$State;" ∈ wsX2_serve := by first | exact List.mem_of_getElem? (i := 3) rfl | decide +kernel
theorem hdV_yX8_isFriend_RX8 : yX8_isFriend.cls = RX8 ∧ yX8_isFriend.cls ≠ "java/lang/invoke/MethodHandle" ∧ yX8_isFriend.cls ≠ "java/lang/invoke/VarHandle" ∧ (parseMethodDescriptor yX8_isFriend.desc).map (fun d => d.parameters.length) = some 2 := by decide +kernel
set_option maxHeartbeats 8000000 in
set_option maxRecDepth 100000 in
theorem c_X2_serve (l : Launch) (D : va_G) (G : Nat → ClassId) (sz : Nat) (a_p0 : Nat) (a_p0_rules : Nat) (a_p0_state : Nat) (a_p0_places : Nat) (a_p0_holders : Nat) (a_p0_stirred : Nat) (a_p0_rules_need : Nat) (a_p0_rules_kind : Nat) (a_p0_rules_first : Nat) (a_p0_rules_second : Nat) (a_p0_rules_after : Nat) (a_p0_state_pieces : Nat) (a_p0_state_friends : Nat) (a_p0_state_spoons : Nat) (a_p0_state_eaten : Nat) (a_p0_state_seen : Nat) (i_p0_rules_seats : Int) (i_p0_rules_stirs : Int) (i_p0_state_seenDays : Int) (i_p0_state_bone : Int) (i_p0_state_king : Int) (i_p0_state_days : Int) (v_p0_state_friends : (Int → Int)) (v_p0_places : (Int → Int)) (v_p0_holders : (Int → Int)) (x1 : Int) (o_v_p0_places : (Int → Int)) (o_v_p0_holders : (Int → Int)) (hf : f_X2_serve i_p0_rules_seats v_p0_state_friends v_p0_places v_p0_holders x1 = some (o_v_p0_places, o_v_p0_holders)) : Met l yX2_serve wsX2_serve rm_X2_serve (pcG D G [.ref a_p0, .int (Int32.ofInt x1)] sz [(a_p0, .inr (2, [.ref a_p0_rules, .ref a_p0_state, .ref a_p0_places, .ref a_p0_holders, .ref a_p0_stirred])), (a_p0_rules, .inr (6, [.int (Int32.ofInt i_p0_rules_seats), .int (Int32.ofInt i_p0_rules_stirs), .ref a_p0_rules_need, .ref a_p0_rules_kind, .ref a_p0_rules_first, .ref a_p0_rules_second, .ref a_p0_rules_after])), (a_p0_state, .inr (8, [.ref a_p0_state_pieces, .ref a_p0_state_friends, .ref a_p0_state_spoons, .ref a_p0_state_eaten, .ref a_p0_state_seen, .int (Int32.ofInt i_p0_state_seenDays), .int (Int32.ofInt i_p0_state_bone), .int (Int32.ofInt i_p0_state_king), .int (Int32.ofInt i_p0_state_days)])), (a_p0_state_friends, .inl (G 1, 7, .inl (zA v_p0_state_friends))), (a_p0_places, .inl (G 1, 49, .inl (zA v_p0_places))), (a_p0_holders, .inl (G 1, 49, .inl (zA v_p0_holders)))]) (qcV D G [(a_p0, .inr (2, [.ref a_p0_rules, .ref a_p0_state, .ref a_p0_places, .ref a_p0_holders, .ref a_p0_stirred])), (a_p0_rules, .inr (6, [.int (Int32.ofInt i_p0_rules_seats), .int (Int32.ofInt i_p0_rules_stirs), .ref a_p0_rules_need, .ref a_p0_rules_kind, .ref a_p0_rules_first, .ref a_p0_rules_second, .ref a_p0_rules_after])), (a_p0_state, .inr (8, [.ref a_p0_state_pieces, .ref a_p0_state_friends, .ref a_p0_state_spoons, .ref a_p0_state_eaten, .ref a_p0_state_seen, .int (Int32.ofInt i_p0_state_seenDays), .int (Int32.ofInt i_p0_state_bone), .int (Int32.ofInt i_p0_state_king), .int (Int32.ofInt i_p0_state_days)])), (a_p0_state_friends, .inl (G 1, 7, .inl (zA v_p0_state_friends))), (a_p0_places, .inl (G 1, 49, .inl (zA o_v_p0_places))), (a_p0_holders, .inl (G 1, 49, .inl (zA o_v_p0_holders)))] (va_A [(a_p0, .inr (2, [.ref a_p0_rules, .ref a_p0_state, .ref a_p0_places, .ref a_p0_holders, .ref a_p0_stirred])), (a_p0_rules, .inr (6, [.int (Int32.ofInt i_p0_rules_seats), .int (Int32.ofInt i_p0_rules_stirs), .ref a_p0_rules_need, .ref a_p0_rules_kind, .ref a_p0_rules_first, .ref a_p0_rules_second, .ref a_p0_rules_after])), (a_p0_state, .inr (8, [.ref a_p0_state_pieces, .ref a_p0_state_friends, .ref a_p0_state_spoons, .ref a_p0_state_eaten, .ref a_p0_state_seen, .int (Int32.ofInt i_p0_state_seenDays), .int (Int32.ofInt i_p0_state_bone), .int (Int32.ofInt i_p0_state_king), .int (Int32.ofInt i_p0_state_days)])), (a_p0_state_friends, .inl (G 1, 7, .inl (zA v_p0_state_friends))), (a_p0_places, .inl (G 1, 49, .inl (zA v_p0_places))), (a_p0_holders, .inl (G 1, 49, .inl (zA v_p0_holders)))] sz)) 0 0 (va_A [(a_p0, .inr (2, [.ref a_p0_rules, .ref a_p0_state, .ref a_p0_places, .ref a_p0_holders, .ref a_p0_stirred])), (a_p0_rules, .inr (6, [.int (Int32.ofInt i_p0_rules_seats), .int (Int32.ofInt i_p0_rules_stirs), .ref a_p0_rules_need, .ref a_p0_rules_kind, .ref a_p0_rules_first, .ref a_p0_rules_second, .ref a_p0_rules_after])), (a_p0_state, .inr (8, [.ref a_p0_state_pieces, .ref a_p0_state_friends, .ref a_p0_state_spoons, .ref a_p0_state_eaten, .ref a_p0_state_seen, .int (Int32.ofInt i_p0_state_seenDays), .int (Int32.ofInt i_p0_state_bone), .int (Int32.ofInt i_p0_state_king), .int (Int32.ofInt i_p0_state_days)])), (a_p0_state_friends, .inl (G 1, 7, .inl (zA v_p0_state_friends))), (a_p0_places, .inl (G 1, 49, .inl (zA v_p0_places))), (a_p0_holders, .inl (G 1, 49, .inl (zA v_p0_holders)))] sz) := by
  refine Met.ofW (cc := cX2_serve) (maxL := 7) (ret := none) (by decide) rfl ?_
  intro p e s m args below meth c s₁ B hml hv
  obtain ⟨rfl, hsz, hP, hK, hD0⟩ := hv
  have hx := B.exec
  have hb := B.bytes
  have hr := B.returns
  have hts := atoms_spec (ws := wsX2_serve) B.pre
  have hown : s.vm.findClass RX2 = some m.cls := findClass_of_methodNamed B.named
  have hlocks := B.notSynchronized
  subst hsz
  have hD := hD0.self (sz := s.heap.size)
  generalize hAe : va_A [(a_p0, .inr (2, [.ref a_p0_rules, .ref a_p0_state, .ref a_p0_places, .ref a_p0_holders, .ref a_p0_stirred])), (a_p0_rules, .inr (6, [.int (Int32.ofInt i_p0_rules_seats), .int (Int32.ofInt i_p0_rules_stirs), .ref a_p0_rules_need, .ref a_p0_rules_kind, .ref a_p0_rules_first, .ref a_p0_rules_second, .ref a_p0_rules_after])), (a_p0_state, .inr (8, [.ref a_p0_state_pieces, .ref a_p0_state_friends, .ref a_p0_state_spoons, .ref a_p0_state_eaten, .ref a_p0_state_seen, .int (Int32.ofInt i_p0_state_seenDays), .int (Int32.ofInt i_p0_state_bone), .int (Int32.ofInt i_p0_state_king), .int (Int32.ofInt i_p0_state_days)])), (a_p0_state_friends, .inl (G 1, 7, .inl (zA v_p0_state_friends))), (a_p0_places, .inl (G 1, 49, .inl (zA v_p0_places))), (a_p0_holders, .inl (G 1, 49, .inl (zA v_p0_holders)))] s.heap.size = A at hD ⊢
  have hA : ∀ q : Nat, s.heap.size ≤ q → A q := fun q h => by rw [← hAe]; exact Or.inr h
  clear hAe hD0
  have hS : va_S A s.heap s.heap [] := va_S.rf
  have hl := lv_entry ([.ref a_p0, .int (Int32.ofInt x1)]) (n := 7) (Nat.le_of_ble_eq_true rfl)
  rw [lg_entry_eq]
  generalize (lg_sl ([.ref a_p0, .int (Int32.ofInt x1)]) ++ List.replicate (7 - (lg_sl ([.ref a_p0, .int (Int32.ofInt x1)])).length) Slot.unset).toArray = ls at hl ⊢
  have hl : lv_has ls 7 [(0, .ref a_p0), (1, .int (Int32.ofInt x1))] := hl
  refine W_nameQ (fun Q hQ => ?_)
  obtain ⟨H, hH⟩ : ∃ H, H = s.heap := ⟨_, rfl⟩
  replace hS : va_S A s.heap H [] := by rw [hH]; exact hS
  replace hP : va_P D vwCl [(a_p0, .inr (2, [.ref a_p0_rules, .ref a_p0_state, .ref a_p0_places, .ref a_p0_holders, .ref a_p0_stirred])), (a_p0_rules, .inr (6, [.int (Int32.ofInt i_p0_rules_seats), .int (Int32.ofInt i_p0_rules_stirs), .ref a_p0_rules_need, .ref a_p0_rules_kind, .ref a_p0_rules_first, .ref a_p0_rules_second, .ref a_p0_rules_after])), (a_p0_state, .inr (8, [.ref a_p0_state_pieces, .ref a_p0_state_friends, .ref a_p0_state_spoons, .ref a_p0_state_eaten, .ref a_p0_state_seen, .int (Int32.ofInt i_p0_state_seenDays), .int (Int32.ofInt i_p0_state_bone), .int (Int32.ofInt i_p0_state_king), .int (Int32.ofInt i_p0_state_days)])), (a_p0_state_friends, .inl (G 1, 7, .inl (zA v_p0_state_friends))), (a_p0_places, .inl (G 1, 49, .inl (zA v_p0_places))), (a_p0_holders, .inl (G 1, 49, .inl (zA v_p0_holders)))] H := by rw [hH]; exact hP
  rw [← hH]
  clear hH
  unfold f_X2_serve at hf
  refine lv_iconst (v := Int32.ofInt (0 : Int)) hx hb dX2_serve_0 (by decide) ?_
  refine z_topi (fun z1 ez => ?_)
  replace hf := bnd_s hf ez
  clear ez
  refine lv_istore_n (lv' := [(2, .int (Int32.ofInt z1)), (0, .ref a_p0), (1, .int (Int32.ofInt x1))]) hx hb dX2_serve_1 rfl hl (by decide) rfl (fun ls hl => ?_)
  refine lv_aload_n hx hb dX2_serve_2 rfl (lv_at hl 1 rfl) ?_
  refine va_get (D := D) (ci := 2) (v := .ref a_p0_rules) (C := RX2) (T := TX2) (N := 5) hx hb hts inX2_serve_X2 hown hK hP 0 rfl rfl 0 (by decide) (hts _ mwX2_serve_1) (fun _ h9 => h9) rfl dX2_serve_3 ?_
  refine va_get (D := D) (ci := 6) (v := .int (Int32.ofInt i_p0_rules_seats)) (C := RX6) (T := TX6) (N := 7) hx hb hts inX2_serve_X6 hown hK hP 1 rfl rfl 0 (by decide) (hts _ mwX2_serve_3) (fun _ h9 => h9) rfl dX2_serve_6 ?_
  refine lv_iconst (v := Int32.ofInt (1 : Int)) hx hb dX2_serve_9 (by decide) ?_
  refine lv_isub hx hb dX2_serve_10 (z_ci (Int32.ofInt_sub i_p0_rules_seats (1 : Int)) ?_)
  refine z_topi (fun z2 ez => ?_)
  replace hf := bnd_s hf ez
  clear ez
  refine lv_istore_n (lv' := [(3, .int (Int32.ofInt z2)), (2, .int (Int32.ofInt z1)), (0, .ref a_p0), (1, .int (Int32.ofInt x1))]) hx hb dX2_serve_11 rfl hl (by decide) rfl (fun ls hl => ?_)
  refine lv_iconst (v := Int32.ofInt (0 : Int)) hx hb dX2_serve_12 (by decide) ?_
  refine z_topi (fun z3 ez => ?_)
  replace hf := bnd_s hf ez
  clear ez
  refine lv_istore (lv' := [(4, .int (Int32.ofInt z3)), (3, .int (Int32.ofInt z2)), (2, .int (Int32.ofInt z1)), (0, .ref a_p0), (1, .int (Int32.ofInt x1))]) hx hb dX2_serve_13 hl (by decide) rfl (fun ls hl => ?_)
  have hq := lq5_i hf
  clear hf
  obtain ⟨B9, eB9, NB9, hf⟩ := hq
  have hB9 : ∀ (n : Nat) (z4 : Int) (z5 : Int) (z6 : Int) (w7 : (Int → Int)) (w8 : (Int → Int)) (ls : Array Slot) (H : Heap) (locs : List Loc), lv_has ls 7 [(4, .int (Int32.ofInt z4)), (3, .int (Int32.ofInt z5)), (2, .int (Int32.ofInt z6)), (0, .ref a_p0), (1, .int (Int32.ofInt x1))] → va_P D vwCl [(a_p0, .inr (2, [.ref a_p0_rules, .ref a_p0_state, .ref a_p0_places, .ref a_p0_holders, .ref a_p0_stirred])), (a_p0_rules, .inr (6, [.int (Int32.ofInt i_p0_rules_seats), .int (Int32.ofInt i_p0_rules_stirs), .ref a_p0_rules_need, .ref a_p0_rules_kind, .ref a_p0_rules_first, .ref a_p0_rules_second, .ref a_p0_rules_after])), (a_p0_state, .inr (8, [.ref a_p0_state_pieces, .ref a_p0_state_friends, .ref a_p0_state_spoons, .ref a_p0_state_eaten, .ref a_p0_state_seen, .int (Int32.ofInt i_p0_state_seenDays), .int (Int32.ofInt i_p0_state_bone), .int (Int32.ofInt i_p0_state_king), .int (Int32.ofInt i_p0_state_days)])), (a_p0_state_friends, .inl (G 1, 7, .inl (zA v_p0_state_friends))), (a_p0_places, .inl (G 1, 49, .inl (zA w7))), (a_p0_holders, .inl (G 1, 49, .inl (zA w8)))] H → va_D A [(a_p0, .inr (2, [.ref a_p0_rules, .ref a_p0_state, .ref a_p0_places, .ref a_p0_holders, .ref a_p0_stirred])), (a_p0_rules, .inr (6, [.int (Int32.ofInt i_p0_rules_seats), .int (Int32.ofInt i_p0_rules_stirs), .ref a_p0_rules_need, .ref a_p0_rules_kind, .ref a_p0_rules_first, .ref a_p0_rules_second, .ref a_p0_rules_after])), (a_p0_state, .inr (8, [.ref a_p0_state_pieces, .ref a_p0_state_friends, .ref a_p0_state_spoons, .ref a_p0_state_eaten, .ref a_p0_state_seen, .int (Int32.ofInt i_p0_state_seenDays), .int (Int32.ofInt i_p0_state_bone), .int (Int32.ofInt i_p0_state_king), .int (Int32.ofInt i_p0_state_days)])), (a_p0_state_friends, .inl (G 1, 7, .inl (zA v_p0_state_friends))), (a_p0_places, .inl (G 1, 49, .inl (zA w7))), (a_p0_holders, .inl (G 1, 49, .inl (zA w8)))] → va_S A s.heap H locs → lq5 B9 n z4 z5 z6 w7 w8 = some (o_v_p0_places, o_v_p0_holders) → W p l e rm_X2_serve s m ([.ref a_p0, .int (Int32.ofInt x1)] : List Value).toArray below meth c H locs 0 0 Q (F0 m 15 ls []) := by
    clear hf hl hP hD hS
    intro n
    induction n with
    | zero =>
      intro z4 z5 z6 w7 w8 ls H locs hl hP hD hS hf
      exact (lq5_0 hf).elim
    | succ n ih15 =>
      intro z4 z5 z6 w7 w8 ls H locs hl hP hD hS hf
      replace hf := lq5_s eB9 hf
      unfold B_X2_serve_15 at hf
      refine lv_iload hx hb dX2_serve_15 (lv_at hl 0 rfl) ?_
      refine lv_aload_n hx hb dX2_serve_17 rfl (lv_at hl 3 rfl) ?_
      refine va_get (D := D) (ci := 2) (v := .ref a_p0_rules) (C := RX2) (T := TX2) (N := 5) hx hb hts inX2_serve_X2 hown hK hP 0 rfl rfl 0 (by decide) (hts _ mwX2_serve_1) (fun _ h9 => h9) rfl dX2_serve_18 ?_
      refine va_get (D := D) (ci := 6) (v := .int (Int32.ofInt i_p0_rules_seats)) (C := RX6) (T := TX6) (N := 7) hx hb hts inX2_serve_X6 hown hK hP 1 rfl rfl 0 (by decide) (hts _ mwX2_serve_3) (fun _ h9 => h9) rfl dX2_serve_21 ?_
      have hr9 := ck_c hf
      replace hf := ck_r hf
      have hr10 := ck_c hf
      replace hf := ck_r hf
      refine lv_icmp_ge (tgt := 108) hx hb dX2_serve_24 (by decide) (fun cc => ?_) (fun cc => ?_)
      ·
        replace hf := ite_t ((z_le hr10 hr9).mp cc) hf
        clear cc
        obtain ⟨rfl, rfl⟩ := ou2 hf
        rw [hQ]
        exact W.vret hx hb hr (fun t ht hW => ⟨⟨(), rfl, trivial, by rw [ht]; exact hP, va_K.moved hW.alike hK, hD⟩, hS.F ht⟩) hS.2.2 dX2_serve_108
      ·
        replace hf := ite_f (fun h9 => cc ((z_le hr10 hr9).mpr h9)) hf
        clear cc
        refine lv_aload_n hx hb dX2_serve_27 rfl (lv_at hl 3 rfl) ?_
        refine va_get (D := D) (ci := 2) (v := .ref a_p0_rules) (C := RX2) (T := TX2) (N := 5) hx hb hts inX2_serve_X2 hown hK hP 0 rfl rfl 0 (by decide) (hts _ mwX2_serve_1) (fun _ h9 => h9) rfl dX2_serve_28 ?_
        refine lv_iload_n hx hb dX2_serve_31 rfl (lv_at hl 4 rfl) ?_
        refine lv_iload hx hb dX2_serve_32 (lv_at hl 0 rfl) ?_
        refine lv_iadd hx hb dX2_serve_34 (z_ci (Int32.ofInt_add x1 z4) ?_)
        have hq := bd1_s hf
        clear hf
        obtain ⟨z12, hcall, hf⟩ := hq
        refine gnI (va_runV (As := [.int (Int32.ofInt (x1 + z4))]) (rest := []) ⟨hx, hb, hml, hown, hts⟩ (c_X6_inRing (l := l) (D := D) (G := G) (sz := H.size) (a_p0 := a_p0_rules) (a_p0_need := a_p0_rules_need) (a_p0_kind := a_p0_rules_kind) (a_p0_first := a_p0_rules_first) (a_p0_second := a_p0_rules_second) (a_p0_after := a_p0_rules_after) (i_p0_seats := i_p0_rules_seats) (i_p0_stirs := i_p0_rules_stirs) (x1 := (x1 + z4)) (r := z12) (hf := hcall)) (cwV 1 hts gX2_serve_X6_inRing rfl rfl rfl hdV_yX6_inRing_RX6 ⟨Nat.le_of_ble_eq_true rfl, Nat.le_of_ble_eq_true rfl⟩) (preG_V (ci := 6) (q := (RX6, TX6, 7)) (hP.sub [1] rfl) (hD.sub [1] rfl rfl) hK rfl rfl) rfl rfl hl.1 rfl (lv_room (Nat.le_of_ble_eq_true rfl)) dX2_serve_35 ⟨Nat.le_of_ble_eq_true rfl, Nat.le_of_ble_eq_true rfl⟩) hP hD hS hA [1] rfl (fun H locs hP hD hS => ?_)
        clear hcall
        refine z_topi (fun z13 ez => ?_)
        replace hf := bnd_s hf ez
        clear ez
        refine lv_istore (lv' := [(5, .int (Int32.ofInt z13)), (4, .int (Int32.ofInt z4)), (3, .int (Int32.ofInt z5)), (2, .int (Int32.ofInt z6)), (0, .ref a_p0), (1, .int (Int32.ofInt x1))]) hx hb dX2_serve_38 hl (by decide) rfl (fun ls hl => ?_)
        refine lv_iload hx hb dX2_serve_40 (lv_at hl 0 rfl) ?_
        refine lv_iload_n hx hb dX2_serve_42 rfl (lv_at hl 5 rfl) ?_
        have hr13 := ck_c hf
        replace hf := ck_r hf
        have hr14 := ck_c hf
        replace hf := ck_r hf
        have hq := jn_i hf
        clear hf
        obtain ⟨J19, eJ19, hf⟩ := hq
        have hJ19 : ∀ (z16 : Int) (z17 : Int) (z18 : Int) (ls : Array Slot) (H : Heap) (locs : List Loc), lv_has ls 7 [(5, .int (Int32.ofInt z13)), (4, .int (Int32.ofInt z4)), (3, .int (Int32.ofInt z17)), (2, .int (Int32.ofInt z16)), (0, .ref a_p0), (1, .int (Int32.ofInt x1)), (6, .int (Int32.ofInt z18))] → va_P D vwCl [(a_p0, .inr (2, [.ref a_p0_rules, .ref a_p0_state, .ref a_p0_places, .ref a_p0_holders, .ref a_p0_stirred])), (a_p0_rules, .inr (6, [.int (Int32.ofInt i_p0_rules_seats), .int (Int32.ofInt i_p0_rules_stirs), .ref a_p0_rules_need, .ref a_p0_rules_kind, .ref a_p0_rules_first, .ref a_p0_rules_second, .ref a_p0_rules_after])), (a_p0_state, .inr (8, [.ref a_p0_state_pieces, .ref a_p0_state_friends, .ref a_p0_state_spoons, .ref a_p0_state_eaten, .ref a_p0_state_seen, .int (Int32.ofInt i_p0_state_seenDays), .int (Int32.ofInt i_p0_state_bone), .int (Int32.ofInt i_p0_state_king), .int (Int32.ofInt i_p0_state_days)])), (a_p0_state_friends, .inl (G 1, 7, .inl (zA v_p0_state_friends))), (a_p0_places, .inl (G 1, 49, .inl (zA w7))), (a_p0_holders, .inl (G 1, 49, .inl (zA w8)))] H → va_D A [(a_p0, .inr (2, [.ref a_p0_rules, .ref a_p0_state, .ref a_p0_places, .ref a_p0_holders, .ref a_p0_stirred])), (a_p0_rules, .inr (6, [.int (Int32.ofInt i_p0_rules_seats), .int (Int32.ofInt i_p0_rules_stirs), .ref a_p0_rules_need, .ref a_p0_rules_kind, .ref a_p0_rules_first, .ref a_p0_rules_second, .ref a_p0_rules_after])), (a_p0_state, .inr (8, [.ref a_p0_state_pieces, .ref a_p0_state_friends, .ref a_p0_state_spoons, .ref a_p0_state_eaten, .ref a_p0_state_seen, .int (Int32.ofInt i_p0_state_seenDays), .int (Int32.ofInt i_p0_state_bone), .int (Int32.ofInt i_p0_state_king), .int (Int32.ofInt i_p0_state_days)])), (a_p0_state_friends, .inl (G 1, 7, .inl (zA v_p0_state_friends))), (a_p0_places, .inl (G 1, 49, .inl (zA w7))), (a_p0_holders, .inl (G 1, 49, .inl (zA w8)))] → va_S A s.heap H locs → J19 z16 z17 z18 = some (o_v_p0_places, o_v_p0_holders) → W p l e rm_X2_serve s m ([.ref a_p0, .int (Int32.ofInt x1)] : List Value).toArray below meth c H locs 0 0 Q (F0 m 74 ls []) := by
          clear hf hl hP hD hS
          intro z16 z17 z18 ls H locs hl hP hD hS hf
          replace hf := jn3_s eJ19 hf
          refine lv_aload_n hx hb dX2_serve_74 rfl (lv_at hl 4 rfl) ?_
          refine va_get (D := D) (ci := 2) (v := .ref a_p0_places) (C := RX2) (T := TX2) (N := 5) hx hb hts inX2_serve_X2 hown hK hP 0 rfl rfl 2 (by decide) (hts _ mwX2_serve_5) (fun _ h9 => h9) rfl dX2_serve_75 ?_
          refine lv_iload_n hx hb dX2_serve_78 rfl (lv_at hl 5 rfl) ?_
          refine lv_bipush (v := Int32.ofInt (7 : Int)) hx hb dX2_serve_79 (by decide) ?_
          refine lv_imul hx hb dX2_serve_81 (z_ci (Int32.ofInt_mul x1 (7 : Int)) ?_)
          refine lv_iload hx hb dX2_serve_82 (lv_at hl 0 rfl) ?_
          refine lv_iadd hx hb dX2_serve_84 (z_ci (Int32.ofInt_add (x1 * (7 : Int)) z13) ?_)
          refine lv_iload hx hb dX2_serve_85 (lv_at hl 6 rfl) ?_
          have hc := ck_c hf
          replace hf := ck_r hf
          refine zs_iast (wf := fun w20 => [(a_p0, .inr (2, [.ref a_p0_rules, .ref a_p0_state, .ref a_p0_places, .ref a_p0_holders, .ref a_p0_stirred])), (a_p0_rules, .inr (6, [.int (Int32.ofInt i_p0_rules_seats), .int (Int32.ofInt i_p0_rules_stirs), .ref a_p0_rules_need, .ref a_p0_rules_kind, .ref a_p0_rules_first, .ref a_p0_rules_second, .ref a_p0_rules_after])), (a_p0_state, .inr (8, [.ref a_p0_state_pieces, .ref a_p0_state_friends, .ref a_p0_state_spoons, .ref a_p0_state_eaten, .ref a_p0_state_seen, .int (Int32.ofInt i_p0_state_seenDays), .int (Int32.ofInt i_p0_state_bone), .int (Int32.ofInt i_p0_state_king), .int (Int32.ofInt i_p0_state_days)])), (a_p0_state_friends, .inl (G 1, 7, .inl (zA v_p0_state_friends))), (a_p0_places, .inl (G 1, 49, .inl (zA w20))), (a_p0_holders, .inl (G 1, 49, .inl (zA w8)))]) hx hb hK hP hD hS 4 1 rfl rfl hc dX2_serve_87 (fun _ => rfl) (fun w20 ez H locs hP hD hS => ?_)
          replace hf := bnd_s hf ez
          clear ez hc
          refine lv_aload_n hx hb dX2_serve_88 rfl (lv_at hl 4 rfl) ?_
          refine va_get (D := D) (ci := 2) (v := .ref a_p0_holders) (C := RX2) (T := TX2) (N := 5) hx hb hts inX2_serve_X2 hown hK hP 0 rfl rfl 3 (by decide) (hts _ mwX2_serve_6) (fun _ h9 => h9) rfl dX2_serve_89 ?_
          refine lv_iload_n hx hb dX2_serve_92 rfl (lv_at hl 5 rfl) ?_
          refine lv_bipush (v := Int32.ofInt (7 : Int)) hx hb dX2_serve_93 (by decide) ?_
          refine lv_imul hx hb dX2_serve_95 (z_ci (Int32.ofInt_mul x1 (7 : Int)) ?_)
          refine lv_iload hx hb dX2_serve_96 (lv_at hl 6 rfl) ?_
          refine lv_iadd hx hb dX2_serve_98 (z_ci (Int32.ofInt_add (x1 * (7 : Int)) z18) ?_)
          refine lv_iload hx hb dX2_serve_99 (lv_at hl 0 rfl) ?_
          have hc := ck_c hf
          replace hf := ck_r hf
          refine zs_iast (wf := fun w21 => [(a_p0, .inr (2, [.ref a_p0_rules, .ref a_p0_state, .ref a_p0_places, .ref a_p0_holders, .ref a_p0_stirred])), (a_p0_rules, .inr (6, [.int (Int32.ofInt i_p0_rules_seats), .int (Int32.ofInt i_p0_rules_stirs), .ref a_p0_rules_need, .ref a_p0_rules_kind, .ref a_p0_rules_first, .ref a_p0_rules_second, .ref a_p0_rules_after])), (a_p0_state, .inr (8, [.ref a_p0_state_pieces, .ref a_p0_state_friends, .ref a_p0_state_spoons, .ref a_p0_state_eaten, .ref a_p0_state_seen, .int (Int32.ofInt i_p0_state_seenDays), .int (Int32.ofInt i_p0_state_bone), .int (Int32.ofInt i_p0_state_king), .int (Int32.ofInt i_p0_state_days)])), (a_p0_state_friends, .inl (G 1, 7, .inl (zA v_p0_state_friends))), (a_p0_places, .inl (G 1, 49, .inl (zA w20))), (a_p0_holders, .inl (G 1, 49, .inl (zA w21)))]) hx hb hK hP hD hS 5 1 rfl rfl hc dX2_serve_101 (fun _ => rfl) (fun w21 ez H locs hP hD hS => ?_)
          replace hf := bnd_s hf ez
          clear ez hc
          obtain ⟨z22, ez⟩ : ∃ y : Int, y = (z4 + (1 : Int)) := ⟨_, rfl⟩
          replace hf := bnd_s hf ez
          refine lv_iinc (v := Int32.ofInt z22) (lv' := [(4, .int (Int32.ofInt z22)), (5, .int (Int32.ofInt z13)), (3, .int (Int32.ofInt z17)), (2, .int (Int32.ofInt z16)), (0, .ref a_p0), (1, .int (Int32.ofInt x1)), (6, .int (Int32.ofInt z18))]) hx hb dX2_serve_102 hl (k := 1) rfl (by rw [ez]; exact (Int32.ofInt_add _ _).symm) (by decide) rfl (fun ls hl => ?_)
          clear ez
          refine lv_goto (tgt := 15) hx hb dX2_serve_105 (by decide) ?_
          exact ih15 _ _ _ _ _ _ _ _ (lv_sub hl [0, 2, 3, 4, 5] rfl) hP hD hS hf
        have hq := jn_i hf
        clear hf
        obtain ⟨J23, eJ23, hf⟩ := hq
        have hJ23 : ∀  (ls : Array Slot) (H : Heap) (locs : List Loc), lv_has ls 7 [(5, .int (Int32.ofInt z13)), (4, .int (Int32.ofInt z4)), (3, .int (Int32.ofInt z5)), (2, .int (Int32.ofInt z6)), (0, .ref a_p0), (1, .int (Int32.ofInt x1))] → va_P D vwCl [(a_p0, .inr (2, [.ref a_p0_rules, .ref a_p0_state, .ref a_p0_places, .ref a_p0_holders, .ref a_p0_stirred])), (a_p0_rules, .inr (6, [.int (Int32.ofInt i_p0_rules_seats), .int (Int32.ofInt i_p0_rules_stirs), .ref a_p0_rules_need, .ref a_p0_rules_kind, .ref a_p0_rules_first, .ref a_p0_rules_second, .ref a_p0_rules_after])), (a_p0_state, .inr (8, [.ref a_p0_state_pieces, .ref a_p0_state_friends, .ref a_p0_state_spoons, .ref a_p0_state_eaten, .ref a_p0_state_seen, .int (Int32.ofInt i_p0_state_seenDays), .int (Int32.ofInt i_p0_state_bone), .int (Int32.ofInt i_p0_state_king), .int (Int32.ofInt i_p0_state_days)])), (a_p0_state_friends, .inl (G 1, 7, .inl (zA v_p0_state_friends))), (a_p0_places, .inl (G 1, 49, .inl (zA w7))), (a_p0_holders, .inl (G 1, 49, .inl (zA w8)))] H → va_D A [(a_p0, .inr (2, [.ref a_p0_rules, .ref a_p0_state, .ref a_p0_places, .ref a_p0_holders, .ref a_p0_stirred])), (a_p0_rules, .inr (6, [.int (Int32.ofInt i_p0_rules_seats), .int (Int32.ofInt i_p0_rules_stirs), .ref a_p0_rules_need, .ref a_p0_rules_kind, .ref a_p0_rules_first, .ref a_p0_rules_second, .ref a_p0_rules_after])), (a_p0_state, .inr (8, [.ref a_p0_state_pieces, .ref a_p0_state_friends, .ref a_p0_state_spoons, .ref a_p0_state_eaten, .ref a_p0_state_seen, .int (Int32.ofInt i_p0_state_seenDays), .int (Int32.ofInt i_p0_state_bone), .int (Int32.ofInt i_p0_state_king), .int (Int32.ofInt i_p0_state_days)])), (a_p0_state_friends, .inl (G 1, 7, .inl (zA v_p0_state_friends))), (a_p0_places, .inl (G 1, 49, .inl (zA w7))), (a_p0_holders, .inl (G 1, 49, .inl (zA w8)))] → va_S A s.heap H locs → J23  = some (o_v_p0_places, o_v_p0_holders) → W p l e rm_X2_serve s m ([.ref a_p0, .int (Int32.ofInt x1)] : List Value).toArray below meth c H locs 0 0 Q (F0 m 59 ls []) := by
          clear hf hl hP hD hS
          intro  ls H locs hl hP hD hS hf
          replace hf := jn0_s eJ23 hf
          refine lv_iload_n hx hb dX2_serve_59 rfl (lv_at hl 2 rfl) ?_
          refine z_topi (fun z24 ez => ?_)
          replace hf := bnd_s hf ez
          clear ez
          refine lv_istore (lv' := [(6, .int (Int32.ofInt z24)), (5, .int (Int32.ofInt z13)), (4, .int (Int32.ofInt z4)), (3, .int (Int32.ofInt z5)), (2, .int (Int32.ofInt z6)), (0, .ref a_p0), (1, .int (Int32.ofInt x1))]) hx hb dX2_serve_60 hl (by decide) rfl (fun ls hl => ?_)
          obtain ⟨z25, ez⟩ : ∃ y : Int, y = (z5 + (-1 : Int)) := ⟨_, rfl⟩
          replace hf := bnd_s hf ez
          refine lv_iinc (v := Int32.ofInt z25) (lv' := [(3, .int (Int32.ofInt z25)), (6, .int (Int32.ofInt z24)), (5, .int (Int32.ofInt z13)), (4, .int (Int32.ofInt z4)), (2, .int (Int32.ofInt z6)), (0, .ref a_p0), (1, .int (Int32.ofInt x1))]) hx hb dX2_serve_62 hl (k := 3) rfl (by rw [ez]; exact (Int32.ofInt_add _ _).symm) (by decide) rfl (fun ls hl => ?_)
          clear ez
          refine lv_goto (tgt := 74) hx hb dX2_serve_65 (by decide) ?_
          exact hJ19 _ _ _ _ _ _ (lv_sub hl [2, 3, 0, 4, 5, 6, 1] rfl) hP hD hS hf
        refine lv_icmp_eq (tgt := 59) hx hb dX2_serve_43 (by decide) (fun cc => ?_) (fun cc => ?_)
        ·
          replace hf := ite_t ((z_eq hr13 hr14).mp cc) hf
          clear cc
          exact hJ23  _ _ _ (lv_sub hl [0, 1, 2, 3, 4, 5] rfl) hP hD hS hf
        ·
          replace hf := ite_f (fun h9 => cc ((z_eq hr13 hr14).mpr h9)) hf
          clear cc
          refine lv_aload_n hx hb dX2_serve_46 rfl (lv_at hl 4 rfl) ?_
          refine va_get (D := D) (ci := 2) (v := .ref a_p0_state) (C := RX2) (T := TX2) (N := 5) hx hb hts inX2_serve_X2 hown hK hP 0 rfl rfl 1 (by decide) (hts _ mwX2_serve_7) (fun _ h9 => h9) rfl dX2_serve_47 ?_
          refine lv_iload_n hx hb dX2_serve_50 rfl (lv_at hl 5 rfl) ?_
          refine lv_iload hx hb dX2_serve_51 (lv_at hl 0 rfl) ?_
          have hq := bd1_s hf
          clear hf
          obtain ⟨z26, hcall, hf⟩ := hq
          refine gnI (va_runV (As := [.int (Int32.ofInt x1), .int (Int32.ofInt z13)]) (rest := []) ⟨hx, hb, hml, hown, hts⟩ (c_X8_isFriend (l := l) (D := D) (G := G) (sz := H.size) (a_p0 := a_p0_state) (a_p0_pieces := a_p0_state_pieces) (a_p0_friends := a_p0_state_friends) (a_p0_spoons := a_p0_state_spoons) (a_p0_eaten := a_p0_state_eaten) (a_p0_seen := a_p0_state_seen) (i_p0_seenDays := i_p0_state_seenDays) (i_p0_bone := i_p0_state_bone) (i_p0_king := i_p0_state_king) (i_p0_days := i_p0_state_days) (v_p0_friends := v_p0_state_friends) (x1 := x1) (x2 := z13) (r := z26) (hf := hcall)) (cwV 2 hts gX2_serve_X8_isFriend rfl rfl rfl hdV_yX8_isFriend_RX8 ⟨Nat.le_of_ble_eq_true rfl, Nat.le_of_ble_eq_true rfl⟩) (preG_V (ci := 8) (q := (RX8, TX8, 9)) (hP.sub [2, 3] rfl) (hD.sub [2, 3] rfl rfl) hK rfl rfl) rfl rfl hl.1 rfl (lv_room (Nat.le_of_ble_eq_true rfl)) dX2_serve_53 ⟨Nat.le_of_ble_eq_true rfl, Nat.le_of_ble_eq_true rfl⟩) hP hD hS hA [2, 3] rfl (fun H locs hP hD hS => ?_)
          clear hcall
          have hr26 := ck_c hf
          replace hf := ck_r hf
          refine lv_if_eq (tgt := 68) hx hb dX2_serve_56 (by decide) (fun cc => ?_) (fun cc => ?_)
          ·
            replace hf := ite_t ((z_eq0 hr26).mp cc) hf
            clear cc
            refine lv_iload_n hx hb dX2_serve_68 rfl (lv_at hl 3 rfl) ?_
            refine z_topi (fun z28 ez => ?_)
            replace hf := bnd_s hf ez
            clear ez
            refine lv_istore (lv' := [(6, .int (Int32.ofInt z28)), (5, .int (Int32.ofInt z13)), (4, .int (Int32.ofInt z4)), (3, .int (Int32.ofInt z5)), (2, .int (Int32.ofInt z6)), (0, .ref a_p0), (1, .int (Int32.ofInt x1))]) hx hb dX2_serve_69 hl (by decide) rfl (fun ls hl => ?_)
            obtain ⟨z29, ez⟩ : ∃ y : Int, y = (z6 + (1 : Int)) := ⟨_, rfl⟩
            replace hf := bnd_s hf ez
            refine lv_iinc (v := Int32.ofInt z29) (lv' := [(2, .int (Int32.ofInt z29)), (6, .int (Int32.ofInt z28)), (5, .int (Int32.ofInt z13)), (4, .int (Int32.ofInt z4)), (3, .int (Int32.ofInt z5)), (0, .ref a_p0), (1, .int (Int32.ofInt x1))]) hx hb dX2_serve_71 hl (k := 4) rfl (by rw [ez]; exact (Int32.ofInt_add _ _).symm) (by decide) rfl (fun ls hl => ?_)
            clear ez
            exact hJ19 _ _ _ _ _ _ (lv_sub hl [2, 3, 4, 0, 5, 6, 1] rfl) hP hD hS hf
          ·
            replace hf := ite_f (fun h9 => cc ((z_eq0 hr26).mpr h9)) hf
            clear cc
            exact hJ23  _ _ _ (lv_sub hl [0, 1, 2, 3, 4, 5] rfl) hP hD hS hf
  exact hB9 _ _ _ _ _ _ _ _ _ (lv_sub hl [0, 1, 2, 3, 4] rfl) hP hD hS hf

noncomputable def B_X2_serveAllKings_2 (i_p0_rules_seats : Int) (v_p0_state_friends : (Int → Int)) (again2 : Int → (Int → Int) → (Int → Int) → Option ((Int → Int) × (Int → Int))) (z2 : Int) (w3 : (Int → Int)) (w4 : (Int → Int)) : Option ((Int → Int) × (Int → Int)) := (ck (z_r32 z2) (ck (z_r32 i_p0_rules_seats) (if i_p0_rules_seats ≤ z2 then (some (w3, w4)) else (bd2 (f_X2_serve i_p0_rules_seats v_p0_state_friends w3 w4 z2) (fun (w8 : (Int → Int)) (w9 : (Int → Int)) => (bnd (z2 + (1 : Int)) (fun (z10 : Int) => (again2 z10 w8 w9))))))))
noncomputable def f_X2_serveAllKings (i_p0_rules_seats : Int) (v_p0_state_friends : (Int → Int)) (v_p0_places : (Int → Int)) (v_p0_holders : (Int → Int)) : Option ((Int → Int) × (Int → Int)) := (bnd (0 : Int) (fun (z1 : Int) => (lq3 (B_X2_serveAllKings_2 i_p0_rules_seats v_p0_state_friends) 1000 z1 v_p0_places v_p0_holders)))
abbrev rm_X2_serveAllKings : Room := { frames := 2, cells := 0, slots := 0, locals := 49 }
theorem inX2_serveAllKings_X2 : ∀ w ∈ wsX20, w ∈ wsX2_serveAllKings := by first | exact fun w h => List.mem_cons_of_mem _ (List.mem_append_left _ (List.mem_append_left _ (List.mem_append_right _ h))) | decide +kernel
theorem mwX2_serveAllKings_1 : Cond.fieldLink RX2 21 "LadleKings$Kitchen" "rules" "LLadleKings$Rules;" ∈ wsX2_serveAllKings := by first | exact List.mem_of_getElem? (i := 1) rfl | decide +kernel
theorem inX2_serveAllKings_X6 : ∀ w ∈ wsX60, w ∈ wsX2_serveAllKings := by first | exact fun w h => List.mem_cons_of_mem _ (List.mem_append_left _ (List.mem_append_right _ h)) | decide +kernel
theorem mwX2_serveAllKings_3 : Cond.fieldLink RX2 29 "LadleKings$Rules" "seats" "I" ∈ wsX2_serveAllKings := by first | exact List.mem_of_getElem? (i := 2) rfl | decide +kernel
theorem hdV_yX2_serve_RX2 : yX2_serve.cls = RX2 ∧ yX2_serve.cls ≠ "java/lang/invoke/MethodHandle" ∧ yX2_serve.cls ≠ "java/lang/invoke/VarHandle" ∧ (parseMethodDescriptor yX2_serve.desc).map (fun d => d.parameters.length) = some 1 := by decide +kernel
set_option maxHeartbeats 8000000 in
set_option maxRecDepth 100000 in
theorem c_X2_serveAllKings (l : Launch) (D : va_G) (G : Nat → ClassId) (sz : Nat) (a_p0 : Nat) (a_p0_rules : Nat) (a_p0_state : Nat) (a_p0_places : Nat) (a_p0_holders : Nat) (a_p0_stirred : Nat) (a_p0_rules_need : Nat) (a_p0_rules_kind : Nat) (a_p0_rules_first : Nat) (a_p0_rules_second : Nat) (a_p0_rules_after : Nat) (a_p0_state_pieces : Nat) (a_p0_state_friends : Nat) (a_p0_state_spoons : Nat) (a_p0_state_eaten : Nat) (a_p0_state_seen : Nat) (i_p0_rules_seats : Int) (i_p0_rules_stirs : Int) (i_p0_state_seenDays : Int) (i_p0_state_bone : Int) (i_p0_state_king : Int) (i_p0_state_days : Int) (v_p0_state_friends : (Int → Int)) (v_p0_places : (Int → Int)) (v_p0_holders : (Int → Int)) (o_v_p0_places : (Int → Int)) (o_v_p0_holders : (Int → Int)) (hf : f_X2_serveAllKings i_p0_rules_seats v_p0_state_friends v_p0_places v_p0_holders = some (o_v_p0_places, o_v_p0_holders)) : Met l yX2_serveAllKings wsX2_serveAllKings rm_X2_serveAllKings (pcG D G [.ref a_p0] sz [(a_p0, .inr (2, [.ref a_p0_rules, .ref a_p0_state, .ref a_p0_places, .ref a_p0_holders, .ref a_p0_stirred])), (a_p0_rules, .inr (6, [.int (Int32.ofInt i_p0_rules_seats), .int (Int32.ofInt i_p0_rules_stirs), .ref a_p0_rules_need, .ref a_p0_rules_kind, .ref a_p0_rules_first, .ref a_p0_rules_second, .ref a_p0_rules_after])), (a_p0_state, .inr (8, [.ref a_p0_state_pieces, .ref a_p0_state_friends, .ref a_p0_state_spoons, .ref a_p0_state_eaten, .ref a_p0_state_seen, .int (Int32.ofInt i_p0_state_seenDays), .int (Int32.ofInt i_p0_state_bone), .int (Int32.ofInt i_p0_state_king), .int (Int32.ofInt i_p0_state_days)])), (a_p0_state_friends, .inl (G 1, 7, .inl (zA v_p0_state_friends))), (a_p0_places, .inl (G 1, 49, .inl (zA v_p0_places))), (a_p0_holders, .inl (G 1, 49, .inl (zA v_p0_holders)))]) (qcV D G [(a_p0, .inr (2, [.ref a_p0_rules, .ref a_p0_state, .ref a_p0_places, .ref a_p0_holders, .ref a_p0_stirred])), (a_p0_rules, .inr (6, [.int (Int32.ofInt i_p0_rules_seats), .int (Int32.ofInt i_p0_rules_stirs), .ref a_p0_rules_need, .ref a_p0_rules_kind, .ref a_p0_rules_first, .ref a_p0_rules_second, .ref a_p0_rules_after])), (a_p0_state, .inr (8, [.ref a_p0_state_pieces, .ref a_p0_state_friends, .ref a_p0_state_spoons, .ref a_p0_state_eaten, .ref a_p0_state_seen, .int (Int32.ofInt i_p0_state_seenDays), .int (Int32.ofInt i_p0_state_bone), .int (Int32.ofInt i_p0_state_king), .int (Int32.ofInt i_p0_state_days)])), (a_p0_state_friends, .inl (G 1, 7, .inl (zA v_p0_state_friends))), (a_p0_places, .inl (G 1, 49, .inl (zA o_v_p0_places))), (a_p0_holders, .inl (G 1, 49, .inl (zA o_v_p0_holders)))] (va_A [(a_p0, .inr (2, [.ref a_p0_rules, .ref a_p0_state, .ref a_p0_places, .ref a_p0_holders, .ref a_p0_stirred])), (a_p0_rules, .inr (6, [.int (Int32.ofInt i_p0_rules_seats), .int (Int32.ofInt i_p0_rules_stirs), .ref a_p0_rules_need, .ref a_p0_rules_kind, .ref a_p0_rules_first, .ref a_p0_rules_second, .ref a_p0_rules_after])), (a_p0_state, .inr (8, [.ref a_p0_state_pieces, .ref a_p0_state_friends, .ref a_p0_state_spoons, .ref a_p0_state_eaten, .ref a_p0_state_seen, .int (Int32.ofInt i_p0_state_seenDays), .int (Int32.ofInt i_p0_state_bone), .int (Int32.ofInt i_p0_state_king), .int (Int32.ofInt i_p0_state_days)])), (a_p0_state_friends, .inl (G 1, 7, .inl (zA v_p0_state_friends))), (a_p0_places, .inl (G 1, 49, .inl (zA v_p0_places))), (a_p0_holders, .inl (G 1, 49, .inl (zA v_p0_holders)))] sz)) 0 0 (va_A [(a_p0, .inr (2, [.ref a_p0_rules, .ref a_p0_state, .ref a_p0_places, .ref a_p0_holders, .ref a_p0_stirred])), (a_p0_rules, .inr (6, [.int (Int32.ofInt i_p0_rules_seats), .int (Int32.ofInt i_p0_rules_stirs), .ref a_p0_rules_need, .ref a_p0_rules_kind, .ref a_p0_rules_first, .ref a_p0_rules_second, .ref a_p0_rules_after])), (a_p0_state, .inr (8, [.ref a_p0_state_pieces, .ref a_p0_state_friends, .ref a_p0_state_spoons, .ref a_p0_state_eaten, .ref a_p0_state_seen, .int (Int32.ofInt i_p0_state_seenDays), .int (Int32.ofInt i_p0_state_bone), .int (Int32.ofInt i_p0_state_king), .int (Int32.ofInt i_p0_state_days)])), (a_p0_state_friends, .inl (G 1, 7, .inl (zA v_p0_state_friends))), (a_p0_places, .inl (G 1, 49, .inl (zA v_p0_places))), (a_p0_holders, .inl (G 1, 49, .inl (zA v_p0_holders)))] sz) := by
  refine Met.ofW (cc := cX2_serveAllKings) (maxL := 2) (ret := none) (by decide) rfl ?_
  intro p e s m args below meth c s₁ B hml hv
  obtain ⟨rfl, hsz, hP, hK, hD0⟩ := hv
  have hx := B.exec
  have hb := B.bytes
  have hr := B.returns
  have hts := atoms_spec (ws := wsX2_serveAllKings) B.pre
  have hown : s.vm.findClass RX2 = some m.cls := findClass_of_methodNamed B.named
  have hlocks := B.notSynchronized
  subst hsz
  have hD := hD0.self (sz := s.heap.size)
  generalize hAe : va_A [(a_p0, .inr (2, [.ref a_p0_rules, .ref a_p0_state, .ref a_p0_places, .ref a_p0_holders, .ref a_p0_stirred])), (a_p0_rules, .inr (6, [.int (Int32.ofInt i_p0_rules_seats), .int (Int32.ofInt i_p0_rules_stirs), .ref a_p0_rules_need, .ref a_p0_rules_kind, .ref a_p0_rules_first, .ref a_p0_rules_second, .ref a_p0_rules_after])), (a_p0_state, .inr (8, [.ref a_p0_state_pieces, .ref a_p0_state_friends, .ref a_p0_state_spoons, .ref a_p0_state_eaten, .ref a_p0_state_seen, .int (Int32.ofInt i_p0_state_seenDays), .int (Int32.ofInt i_p0_state_bone), .int (Int32.ofInt i_p0_state_king), .int (Int32.ofInt i_p0_state_days)])), (a_p0_state_friends, .inl (G 1, 7, .inl (zA v_p0_state_friends))), (a_p0_places, .inl (G 1, 49, .inl (zA v_p0_places))), (a_p0_holders, .inl (G 1, 49, .inl (zA v_p0_holders)))] s.heap.size = A at hD ⊢
  have hA : ∀ q : Nat, s.heap.size ≤ q → A q := fun q h => by rw [← hAe]; exact Or.inr h
  clear hAe hD0
  have hS : va_S A s.heap s.heap [] := va_S.rf
  have hl := lv_entry ([.ref a_p0]) (n := 2) (Nat.le_of_ble_eq_true rfl)
  rw [lg_entry_eq]
  generalize (lg_sl ([.ref a_p0]) ++ List.replicate (2 - (lg_sl ([.ref a_p0])).length) Slot.unset).toArray = ls at hl ⊢
  have hl : lv_has ls 2 [(0, .ref a_p0)] := hl
  refine W_nameQ (fun Q hQ => ?_)
  obtain ⟨H, hH⟩ : ∃ H, H = s.heap := ⟨_, rfl⟩
  replace hS : va_S A s.heap H [] := by rw [hH]; exact hS
  replace hP : va_P D vwCl [(a_p0, .inr (2, [.ref a_p0_rules, .ref a_p0_state, .ref a_p0_places, .ref a_p0_holders, .ref a_p0_stirred])), (a_p0_rules, .inr (6, [.int (Int32.ofInt i_p0_rules_seats), .int (Int32.ofInt i_p0_rules_stirs), .ref a_p0_rules_need, .ref a_p0_rules_kind, .ref a_p0_rules_first, .ref a_p0_rules_second, .ref a_p0_rules_after])), (a_p0_state, .inr (8, [.ref a_p0_state_pieces, .ref a_p0_state_friends, .ref a_p0_state_spoons, .ref a_p0_state_eaten, .ref a_p0_state_seen, .int (Int32.ofInt i_p0_state_seenDays), .int (Int32.ofInt i_p0_state_bone), .int (Int32.ofInt i_p0_state_king), .int (Int32.ofInt i_p0_state_days)])), (a_p0_state_friends, .inl (G 1, 7, .inl (zA v_p0_state_friends))), (a_p0_places, .inl (G 1, 49, .inl (zA v_p0_places))), (a_p0_holders, .inl (G 1, 49, .inl (zA v_p0_holders)))] H := by rw [hH]; exact hP
  rw [← hH]
  clear hH
  unfold f_X2_serveAllKings at hf
  refine lv_iconst (v := Int32.ofInt (0 : Int)) hx hb dX2_serveAllKings_0 (by decide) ?_
  refine z_topi (fun z1 ez => ?_)
  replace hf := bnd_s hf ez
  clear ez
  refine lv_istore_n (lv' := [(1, .int (Int32.ofInt z1)), (0, .ref a_p0)]) hx hb dX2_serveAllKings_1 rfl hl (by decide) rfl (fun ls hl => ?_)
  have hq := lq3_i hf
  clear hf
  obtain ⟨B5, eB5, NB5, hf⟩ := hq
  have hB5 : ∀ (n : Nat) (z2 : Int) (w3 : (Int → Int)) (w4 : (Int → Int)) (ls : Array Slot) (H : Heap) (locs : List Loc), lv_has ls 2 [(1, .int (Int32.ofInt z2)), (0, .ref a_p0)] → va_P D vwCl [(a_p0, .inr (2, [.ref a_p0_rules, .ref a_p0_state, .ref a_p0_places, .ref a_p0_holders, .ref a_p0_stirred])), (a_p0_rules, .inr (6, [.int (Int32.ofInt i_p0_rules_seats), .int (Int32.ofInt i_p0_rules_stirs), .ref a_p0_rules_need, .ref a_p0_rules_kind, .ref a_p0_rules_first, .ref a_p0_rules_second, .ref a_p0_rules_after])), (a_p0_state, .inr (8, [.ref a_p0_state_pieces, .ref a_p0_state_friends, .ref a_p0_state_spoons, .ref a_p0_state_eaten, .ref a_p0_state_seen, .int (Int32.ofInt i_p0_state_seenDays), .int (Int32.ofInt i_p0_state_bone), .int (Int32.ofInt i_p0_state_king), .int (Int32.ofInt i_p0_state_days)])), (a_p0_state_friends, .inl (G 1, 7, .inl (zA v_p0_state_friends))), (a_p0_places, .inl (G 1, 49, .inl (zA w3))), (a_p0_holders, .inl (G 1, 49, .inl (zA w4)))] H → va_D A [(a_p0, .inr (2, [.ref a_p0_rules, .ref a_p0_state, .ref a_p0_places, .ref a_p0_holders, .ref a_p0_stirred])), (a_p0_rules, .inr (6, [.int (Int32.ofInt i_p0_rules_seats), .int (Int32.ofInt i_p0_rules_stirs), .ref a_p0_rules_need, .ref a_p0_rules_kind, .ref a_p0_rules_first, .ref a_p0_rules_second, .ref a_p0_rules_after])), (a_p0_state, .inr (8, [.ref a_p0_state_pieces, .ref a_p0_state_friends, .ref a_p0_state_spoons, .ref a_p0_state_eaten, .ref a_p0_state_seen, .int (Int32.ofInt i_p0_state_seenDays), .int (Int32.ofInt i_p0_state_bone), .int (Int32.ofInt i_p0_state_king), .int (Int32.ofInt i_p0_state_days)])), (a_p0_state_friends, .inl (G 1, 7, .inl (zA v_p0_state_friends))), (a_p0_places, .inl (G 1, 49, .inl (zA w3))), (a_p0_holders, .inl (G 1, 49, .inl (zA w4)))] → va_S A s.heap H locs → lq3 B5 n z2 w3 w4 = some (o_v_p0_places, o_v_p0_holders) → W p l e rm_X2_serveAllKings s m ([.ref a_p0] : List Value).toArray below meth c H locs 0 0 Q (F0 m 2 ls []) := by
    clear hf hl hP hD hS
    intro n
    induction n with
    | zero =>
      intro z2 w3 w4 ls H locs hl hP hD hS hf
      exact (lq3_0 hf).elim
    | succ n ih2 =>
      intro z2 w3 w4 ls H locs hl hP hD hS hf
      replace hf := lq3_s eB5 hf
      unfold B_X2_serveAllKings_2 at hf
      refine lv_iload_n hx hb dX2_serveAllKings_2 rfl (lv_at hl 0 rfl) ?_
      refine lv_aload_n hx hb dX2_serveAllKings_3 rfl (lv_at hl 1 rfl) ?_
      refine va_get (D := D) (ci := 2) (v := .ref a_p0_rules) (C := RX2) (T := TX2) (N := 5) hx hb hts inX2_serveAllKings_X2 hown hK hP 0 rfl rfl 0 (by decide) (hts _ mwX2_serveAllKings_1) (fun _ h9 => h9) rfl dX2_serveAllKings_4 ?_
      refine va_get (D := D) (ci := 6) (v := .int (Int32.ofInt i_p0_rules_seats)) (C := RX6) (T := TX6) (N := 7) hx hb hts inX2_serveAllKings_X6 hown hK hP 1 rfl rfl 0 (by decide) (hts _ mwX2_serveAllKings_3) (fun _ h9 => h9) rfl dX2_serveAllKings_7 ?_
      have hr5 := ck_c hf
      replace hf := ck_r hf
      have hr6 := ck_c hf
      replace hf := ck_r hf
      refine lv_icmp_ge (tgt := 24) hx hb dX2_serveAllKings_10 (by decide) (fun cc => ?_) (fun cc => ?_)
      ·
        replace hf := ite_t ((z_le hr6 hr5).mp cc) hf
        clear cc
        obtain ⟨rfl, rfl⟩ := ou2 hf
        rw [hQ]
        exact W.vret hx hb hr (fun t ht hW => ⟨⟨(), rfl, trivial, by rw [ht]; exact hP, va_K.moved hW.alike hK, hD⟩, hS.F ht⟩) hS.2.2 dX2_serveAllKings_24
      ·
        replace hf := ite_f (fun h9 => cc ((z_le hr6 hr5).mpr h9)) hf
        clear cc
        refine lv_aload_n hx hb dX2_serveAllKings_13 rfl (lv_at hl 1 rfl) ?_
        refine lv_iload_n hx hb dX2_serveAllKings_14 rfl (lv_at hl 0 rfl) ?_
        have hq := bd2_s hf
        clear hf
        obtain ⟨w8, w9, hcall, hf⟩ := hq
        refine gsV (ws' := [(a_p0, .inr (2, [.ref a_p0_rules, .ref a_p0_state, .ref a_p0_places, .ref a_p0_holders, .ref a_p0_stirred])), (a_p0_rules, .inr (6, [.int (Int32.ofInt i_p0_rules_seats), .int (Int32.ofInt i_p0_rules_stirs), .ref a_p0_rules_need, .ref a_p0_rules_kind, .ref a_p0_rules_first, .ref a_p0_rules_second, .ref a_p0_rules_after])), (a_p0_state, .inr (8, [.ref a_p0_state_pieces, .ref a_p0_state_friends, .ref a_p0_state_spoons, .ref a_p0_state_eaten, .ref a_p0_state_seen, .int (Int32.ofInt i_p0_state_seenDays), .int (Int32.ofInt i_p0_state_bone), .int (Int32.ofInt i_p0_state_king), .int (Int32.ofInt i_p0_state_days)])), (a_p0_state_friends, .inl (G 1, 7, .inl (zA v_p0_state_friends))), (a_p0_places, .inl (G 1, 49, .inl (zA w8))), (a_p0_holders, .inl (G 1, 49, .inl (zA w9)))]) (va_runV (As := [.int (Int32.ofInt z2)]) (rest := []) ⟨hx, hb, hml, hown, hts⟩ (c_X2_serve (l := l) (D := D) (G := G) (sz := H.size) (a_p0 := a_p0) (a_p0_rules := a_p0_rules) (a_p0_state := a_p0_state) (a_p0_places := a_p0_places) (a_p0_holders := a_p0_holders) (a_p0_stirred := a_p0_stirred) (a_p0_rules_need := a_p0_rules_need) (a_p0_rules_kind := a_p0_rules_kind) (a_p0_rules_first := a_p0_rules_first) (a_p0_rules_second := a_p0_rules_second) (a_p0_rules_after := a_p0_rules_after) (a_p0_state_pieces := a_p0_state_pieces) (a_p0_state_friends := a_p0_state_friends) (a_p0_state_spoons := a_p0_state_spoons) (a_p0_state_eaten := a_p0_state_eaten) (a_p0_state_seen := a_p0_state_seen) (i_p0_rules_seats := i_p0_rules_seats) (i_p0_rules_stirs := i_p0_rules_stirs) (i_p0_state_seenDays := i_p0_state_seenDays) (i_p0_state_bone := i_p0_state_bone) (i_p0_state_king := i_p0_state_king) (i_p0_state_days := i_p0_state_days) (v_p0_state_friends := v_p0_state_friends) (v_p0_places := w3) (v_p0_holders := w4) (x1 := z2) (o_v_p0_places := w8) (o_v_p0_holders := w9) (hf := hcall)) (cwV 1 hts gX2_serveAllKings_X2_serve rfl rfl rfl hdV_yX2_serve_RX2 ⟨Nat.le_of_ble_eq_true rfl, Nat.le_of_ble_eq_true rfl⟩) (preG_V (ci := 2) (q := (RX2, TX2, 5)) (hP.sub [0, 1, 2, 3, 4, 5] rfl) (hD.sub [0, 1, 2, 3, 4, 5] rfl rfl) hK rfl rfl) rfl rfl hl.1 rfl (lv_room (Nat.le_of_ble_eq_true rfl)) dX2_serveAllKings_15 ⟨Nat.le_of_ble_eq_true rfl, Nat.le_of_ble_eq_true rfl⟩) hP hD hS hA [0, 1, 2, 3, 4, 5] rfl rfl rfl (fun H locs hP hD hS => ?_)
        clear hcall
        obtain ⟨z10, ez⟩ : ∃ y : Int, y = (z2 + (1 : Int)) := ⟨_, rfl⟩
        replace hf := bnd_s hf ez
        refine lv_iinc (v := Int32.ofInt z10) (lv' := [(1, .int (Int32.ofInt z10)), (0, .ref a_p0)]) hx hb dX2_serveAllKings_18 hl (k := 0) rfl (by rw [ez]; exact (Int32.ofInt_add _ _).symm) (by decide) rfl (fun ls hl => ?_)
        clear ez
        refine lv_goto (tgt := 2) hx hb dX2_serveAllKings_21 (by decide) ?_
        exact ih2 _ _ _ _ _ _ (lv_sub hl [0, 1] rfl) hP hD hS hf
  exact hB5 _ _ _ _ _ _ _ (lv_sub hl [0, 1] rfl) hP hD hS hf

noncomputable def B_J7_fill_53178_5 (z2 : Int) (n_p0 : Nat) (x1 : Int) (again5 : Int → (Int → Int) → Option ((Int → Int))) (z3 : Int) (w4 : (Int → Int)) : Option ((Int → Int)) := (ck (z_r32 z3) (ck (z_r32 z2) (if z2 ≤ z3 then (some w4) else (ck (z_ix z3 n_p0) (bnd (z_up w4 z3 x1) (fun (w8 : (Int → Int)) => (bnd (z3 + (1 : Int)) (fun (z9 : Int) => (again5 z9 w8)))))))))
noncomputable def f_J7_fill_53178 (n_p0 : Nat) (v_p0 : (Int → Int)) (x1 : Int) : Option ((Int → Int)) := (bnd (0 : Int) (fun (z1 : Int) => (bnd ((n_p0 : Nat) : Int) (fun (z2 : Int) => (lq2 (B_J7_fill_53178_5 z2 n_p0 x1) 1000 z1 v_p0)))))
abbrev rm_J7_fill_53178 : Room := { frames := 0, cells := 0, slots := 0, locals := 0 }
set_option maxHeartbeats 8000000 in
set_option maxRecDepth 100000 in
theorem c_J7_fill_53178 (l : Launch) (D : va_G) (G : Nat → ClassId) (sz : Nat) (a_p0 : Nat) (n_p0 : Nat) (v_p0 : (Int → Int)) (x1 : Int) (o_v_p0 : (Int → Int)) (hf : f_J7_fill_53178 n_p0 v_p0 x1 = some o_v_p0) : Met l yJ7_fill_53178 wsJ7_fill_53178 rm_J7_fill_53178 (pcG D G [.ref a_p0, .int (Int32.ofInt x1)] sz [(a_p0, .inl (G 1, n_p0, .inl (zA v_p0)))]) (qcV D G [(a_p0, .inl (G 1, n_p0, .inl (zA o_v_p0)))] (va_A [(a_p0, .inl (G 1, n_p0, .inl (zA v_p0)))] sz)) 0 0 (va_A [(a_p0, .inl (G 1, n_p0, .inl (zA v_p0)))] sz) := by
  refine Met.ofW (cc := cJ7_fill_53178) (maxL := 4) (ret := none) (by decide) rfl ?_
  intro p e s m args below meth c s₁ B hml hv
  obtain ⟨rfl, hsz, hP, hK, hD0⟩ := hv
  have hx := B.exec
  have hb := B.bytes
  have hr := B.returns
  have hts := atoms_spec (ws := wsJ7_fill_53178) B.pre
  have hown : s.vm.findClass RJ7 = some m.cls := findClass_of_methodNamed B.named
  have hlocks := B.notSynchronized
  subst hsz
  have hD := hD0.self (sz := s.heap.size)
  generalize hAe : va_A [(a_p0, .inl (G 1, n_p0, .inl (zA v_p0)))] s.heap.size = A at hD ⊢
  have hA : ∀ q : Nat, s.heap.size ≤ q → A q := fun q h => by rw [← hAe]; exact Or.inr h
  clear hAe hD0
  have hS : va_S A s.heap s.heap [] := va_S.rf
  have hl := lv_entry ([.ref a_p0, .int (Int32.ofInt x1)]) (n := 4) (Nat.le_of_ble_eq_true rfl)
  rw [lg_entry_eq]
  generalize (lg_sl ([.ref a_p0, .int (Int32.ofInt x1)]) ++ List.replicate (4 - (lg_sl ([.ref a_p0, .int (Int32.ofInt x1)])).length) Slot.unset).toArray = ls at hl ⊢
  have hl : lv_has ls 4 [(0, .ref a_p0), (1, .int (Int32.ofInt x1))] := hl
  refine W_nameQ (fun Q hQ => ?_)
  obtain ⟨H, hH⟩ : ∃ H, H = s.heap := ⟨_, rfl⟩
  replace hS : va_S A s.heap H [] := by rw [hH]; exact hS
  replace hP : va_P D vwCl [(a_p0, .inl (G 1, n_p0, .inl (zA v_p0)))] H := by rw [hH]; exact hP
  rw [← hH]
  clear hH
  unfold f_J7_fill_53178 at hf
  refine lv_iconst (v := Int32.ofInt (0 : Int)) hx hb dJ7_fill_53178_0 (by decide) ?_
  refine z_topi (fun z1 ez => ?_)
  replace hf := bnd_s hf ez
  clear ez
  refine lv_istore_n (lv' := [(2, .int (Int32.ofInt z1)), (0, .ref a_p0), (1, .int (Int32.ofInt x1))]) hx hb dJ7_fill_53178_1 rfl hl (by decide) rfl (fun ls hl => ?_)
  refine lv_aload_n hx hb dJ7_fill_53178_2 rfl (lv_at hl 1 rfl) ?_
  refine va_alen (v := Int32.ofInt ((n_p0 : Nat) : Int)) hx hb hK hP 0 1 rfl rfl (z_len _) dJ7_fill_53178_3 ?_
  refine z_topi (fun z2 ez => ?_)
  replace hf := bnd_s hf ez
  clear ez
  refine lv_istore_n (lv' := [(3, .int (Int32.ofInt z2)), (2, .int (Int32.ofInt z1)), (0, .ref a_p0), (1, .int (Int32.ofInt x1))]) hx hb dJ7_fill_53178_4 rfl hl (by decide) rfl (fun ls hl => ?_)
  have hq := lq2_i hf
  clear hf
  obtain ⟨B5, eB5, NB5, hf⟩ := hq
  have hB5 : ∀ (n : Nat) (z3 : Int) (w4 : (Int → Int)) (ls : Array Slot) (H : Heap) (locs : List Loc), lv_has ls 4 [(3, .int (Int32.ofInt z2)), (2, .int (Int32.ofInt z3)), (0, .ref a_p0), (1, .int (Int32.ofInt x1))] → va_P D vwCl [(a_p0, .inl (G 1, n_p0, .inl (zA w4)))] H → va_D A [(a_p0, .inl (G 1, n_p0, .inl (zA w4)))] → va_S A s.heap H locs → lq2 B5 n z3 w4 = some o_v_p0 → W p l e rm_J7_fill_53178 s m ([.ref a_p0, .int (Int32.ofInt x1)] : List Value).toArray below meth c H locs 0 0 Q (F0 m 5 ls []) := by
    clear hf hl hP hD hS
    intro n
    induction n with
    | zero =>
      intro z3 w4 ls H locs hl hP hD hS hf
      exact (lq2_0 hf).elim
    | succ n ih5 =>
      intro z3 w4 ls H locs hl hP hD hS hf
      replace hf := lq2_s eB5 hf
      unfold B_J7_fill_53178_5 at hf
      refine lv_iload_n hx hb dJ7_fill_53178_5 rfl (lv_at hl 1 rfl) ?_
      refine lv_iload_n hx hb dJ7_fill_53178_6 rfl (lv_at hl 0 rfl) ?_
      have hr5 := ck_c hf
      replace hf := ck_r hf
      have hr6 := ck_c hf
      replace hf := ck_r hf
      refine lv_icmp_ge (tgt := 20) hx hb dJ7_fill_53178_7 (by decide) (fun cc => ?_) (fun cc => ?_)
      ·
        replace hf := ite_t ((z_le hr6 hr5).mp cc) hf
        clear cc
        obtain rfl := ou1 hf
        rw [hQ]
        exact W.vret hx hb hr (fun t ht hW => ⟨⟨(), rfl, trivial, by rw [ht]; exact hP, va_K.moved hW.alike hK, hD⟩, hS.F ht⟩) hS.2.2 dJ7_fill_53178_20
      ·
        replace hf := ite_f (fun h9 => cc ((z_le hr6 hr5).mpr h9)) hf
        clear cc
        refine lv_aload_n hx hb dJ7_fill_53178_10 rfl (lv_at hl 2 rfl) ?_
        refine lv_iload_n hx hb dJ7_fill_53178_11 rfl (lv_at hl 1 rfl) ?_
        refine lv_iload_n hx hb dJ7_fill_53178_12 rfl (lv_at hl 3 rfl) ?_
        have hc := ck_c hf
        replace hf := ck_r hf
        refine zs_iast (wf := fun w8 => [(a_p0, .inl (G 1, n_p0, .inl (zA w8)))]) hx hb hK hP hD hS 0 1 rfl rfl hc dJ7_fill_53178_13 (fun _ => rfl) (fun w8 ez H locs hP hD hS => ?_)
        replace hf := bnd_s hf ez
        clear ez hc
        obtain ⟨z9, ez⟩ : ∃ y : Int, y = (z3 + (1 : Int)) := ⟨_, rfl⟩
        replace hf := bnd_s hf ez
        refine lv_iinc (v := Int32.ofInt z9) (lv' := [(2, .int (Int32.ofInt z9)), (3, .int (Int32.ofInt z2)), (0, .ref a_p0), (1, .int (Int32.ofInt x1))]) hx hb dJ7_fill_53178_14 hl (k := 1) rfl (by rw [ez]; exact (Int32.ofInt_add _ _).symm) (by decide) rfl (fun ls hl => ?_)
        clear ez
        refine lv_goto (tgt := 5) hx hb dJ7_fill_53178_17 (by decide) ?_
        exact ih5 _ _ _ _ _ (lv_sub hl [1, 0, 2, 3] rfl) hP hD hS hf
  exact hB5 _ _ _ _ _ _ (lv_sub hl [0, 1, 2, 3] rfl) hP hD hS hf

noncomputable def f_X1_begin (i_p0_kitchen_rules_seats : Int) (i_p0_kitchen_state_bone : Int) (i_p0_kitchen_state_king : Int) (v_p0_kitchen_state_pieces : (Int → Int)) (v_p0_kitchen_state_friends : (Int → Int)) (v_p0_kitchen_places : (Int → Int)) (v_p0_kitchen_holders : (Int → Int)) (v_p0_pots : (Int → Int)) (v_p0_sums : (Int → Int)) (v_p0_kings : (Int → Int)) (v_p0_bones : (Int → Int)) (v_p0_row : (Int → Int)) (x1 : Int) : Option (Int × Int × (Int → Int) × (Int → Int) × (Int → Int) × (Int → Int) × (Int → Int) × (Int → Int) × (Int → Int)) := (bd2 (f_X2_serveAllKings i_p0_kitchen_rules_seats v_p0_kitchen_state_friends v_p0_kitchen_places v_p0_kitchen_holders) (fun (w1 : (Int → Int)) (w2 : (Int → Int)) => (bnd x1 (fun (z3 : Int) => (bnd (-4 : Int) (fun (z4 : Int) => (ck (z_cp (0 : Int) i_p0_kitchen_rules_seats 7) (ck (z_cp (0 : Int) i_p0_kitchen_rules_seats 35) (bnd (z_cpy v_p0_kitchen_state_pieces v_p0_pots (0 : Int) (0 : Int) i_p0_kitchen_rules_seats) (fun (w5 : (Int → Int)) => (bd1 (f_J7_fill_53178 35 v_p0_sums (0 : Int)) (fun (w6 : (Int → Int)) => (bd1 (f_J7_fill_53178 4 v_p0_row (0 : Int)) (fun (w7 : (Int → Int)) => (ck (z_ix (0 : Int) 5) (bnd (z_up v_p0_kings (0 : Int) i_p0_kitchen_state_king) (fun (w8 : (Int → Int)) => (ck (z_ix (0 : Int) 5) (bnd (z_up v_p0_bones (0 : Int) i_p0_kitchen_state_bone) (fun (w9 : (Int → Int)) => (some (z3, z4, w1, w2, w5, w6, w8, w9, w7))))))))))))))))))))))
abbrev rm_X1_begin : Room := { frames := 3, cells := 0, slots := 0, locals := 70 }
theorem inX1_begin_X1 : ∀ w ∈ wsX10, w ∈ wsX1_begin := by first | exact fun w h => List.mem_cons_of_mem _ (List.mem_append_left _ (List.mem_append_left _ (List.mem_append_left _ (List.mem_append_right _ h)))) | decide +kernel
theorem mwX1_begin_1 : Cond.fieldLink RX1 37 "LadleKings$FairDays" "kitchen" "LLadleKings$Kitchen;" ∈ wsX1_begin := by first | exact List.mem_of_getElem? (i := 1) rfl | decide +kernel
theorem hdV_yX2_serveAllKings_RX2 : yX2_serveAllKings.cls = RX2 ∧ yX2_serveAllKings.cls ≠ "java/lang/invoke/MethodHandle" ∧ yX2_serveAllKings.cls ≠ "java/lang/invoke/VarHandle" ∧ (parseMethodDescriptor yX2_serveAllKings.desc).map (fun d => d.parameters.length) = some 0 := by decide +kernel
theorem mwX1_begin_3 : Cond.fieldLink RX1 30 "LadleKings$FairDays" "days" "I" ∈ wsX1_begin := by first | exact List.mem_of_getElem? (i := 2) rfl | decide +kernel
theorem mwX1_begin_4 : Cond.fieldLink RX1 34 "LadleKings$FairDays" "least" "I" ∈ wsX1_begin := by first | exact List.mem_of_getElem? (i := 3) rfl | decide +kernel
theorem inX1_begin_X2 : ∀ w ∈ wsX20, w ∈ wsX1_begin := by first | exact fun w h => List.mem_cons_of_mem _ (List.mem_append_left _ (List.mem_append_left _ (List.mem_append_right _ h))) | decide +kernel
theorem mwX1_begin_6 : Cond.fieldLink RX1 66 "LadleKings$Kitchen" "state" "LLadleKings$State;" ∈ wsX1_begin := by first | exact List.mem_of_getElem? (i := 4) rfl | decide +kernel
theorem inX1_begin_X8 : ∀ w ∈ wsX80, w ∈ wsX1_begin := by first | exact fun w h => List.mem_cons_of_mem _ (List.mem_append_left _ (List.mem_append_right _ h)) | decide +kernel
theorem mwX1_begin_8 : Cond.fieldLink RX1 70 "LadleKings$State" "pieces" "[I" ∈ wsX1_begin := by first | exact List.mem_of_getElem? (i := 5) rfl | decide +kernel
theorem mwX1_begin_9 : Cond.fieldLink RX1 11 "LadleKings$FairDays" "pots" "[I" ∈ wsX1_begin := by first | exact List.mem_of_getElem? (i := 6) rfl | decide +kernel
theorem mwX1_begin_10 : Cond.fieldLink RX1 75 "LadleKings$Kitchen" "rules" "LLadleKings$Rules;" ∈ wsX1_begin := by first | exact List.mem_of_getElem? (i := 7) rfl | decide +kernel
theorem inX1_begin_X6 : ∀ w ∈ wsX60, w ∈ wsX1_begin := by first | exact fun w h => List.mem_cons_of_mem _ (List.mem_append_right _ h) | decide +kernel
theorem mwX1_begin_12 : Cond.fieldLink RX1 79 "LadleKings$Rules" "seats" "I" ∈ wsX1_begin := by first | exact List.mem_of_getElem? (i := 8) rfl | decide +kernel
theorem mwX1_begin_13 : Cond.methodLink RX1 84 arraycopyName ∈ wsX1_begin := by first | exact List.mem_of_getElem? (i := 9) rfl | decide +kernel
theorem mwX1_begin_14 : Cond.native arraycopyName ∈ wsX1_begin := by first | exact List.mem_of_getElem? (i := 10) rfl | decide +kernel
theorem mwX1_begin_15 : Cond.static arraycopyName ∈ wsX1_begin := by first | exact List.mem_of_getElem? (i := 11) rfl | decide +kernel
theorem mwX1_begin_16 : Cond.initialized "java/lang/System" ∈ wsX1_begin := by first | exact List.mem_of_getElem? (i := 12) rfl | decide +kernel
theorem mwX1_begin_17 : Cond.fieldLink RX1 15 "LadleKings$FairDays" "sums" "[I" ∈ wsX1_begin := by first | exact List.mem_of_getElem? (i := 13) rfl | decide +kernel
theorem mwX1_begin_18 : Cond.fieldLink RX1 24 "LadleKings$FairDays" "row" "[I" ∈ wsX1_begin := by first | exact List.mem_of_getElem? (i := 14) rfl | decide +kernel
theorem mwX1_begin_19 : Cond.fieldLink RX1 18 "LadleKings$FairDays" "kings" "[I" ∈ wsX1_begin := by first | exact List.mem_of_getElem? (i := 15) rfl | decide +kernel
theorem mwX1_begin_20 : Cond.fieldLink RX1 96 "LadleKings$State" "king" "I" ∈ wsX1_begin := by first | exact List.mem_of_getElem? (i := 16) rfl | decide +kernel
theorem mwX1_begin_21 : Cond.fieldLink RX1 21 "LadleKings$FairDays" "bones" "[I" ∈ wsX1_begin := by first | exact List.mem_of_getElem? (i := 17) rfl | decide +kernel
theorem mwX1_begin_22 : Cond.fieldLink RX1 99 "LadleKings$State" "bone" "I" ∈ wsX1_begin := by first | exact List.mem_of_getElem? (i := 18) rfl | decide +kernel
set_option maxHeartbeats 8000000 in
set_option maxRecDepth 100000 in
theorem c_X1_begin (l : Launch) (D : va_G) (G : Nat → ClassId) (sz : Nat) (a_p0 : Nat) (a_p0_kitchen : Nat) (a_p0_pots : Nat) (a_p0_sums : Nat) (a_p0_kings : Nat) (a_p0_bones : Nat) (a_p0_row : Nat) (a_p0_bestRow : Nat) (a_p0_kitchen_rules : Nat) (a_p0_kitchen_state : Nat) (a_p0_kitchen_places : Nat) (a_p0_kitchen_holders : Nat) (a_p0_kitchen_stirred : Nat) (a_p0_kitchen_rules_need : Nat) (a_p0_kitchen_rules_kind : Nat) (a_p0_kitchen_rules_first : Nat) (a_p0_kitchen_rules_second : Nat) (a_p0_kitchen_rules_after : Nat) (a_p0_kitchen_state_pieces : Nat) (a_p0_kitchen_state_friends : Nat) (a_p0_kitchen_state_spoons : Nat) (a_p0_kitchen_state_eaten : Nat) (a_p0_kitchen_state_seen : Nat) (i_p0_days : Int) (i_p0_least : Int) (i_p0_kitchen_rules_seats : Int) (i_p0_kitchen_rules_stirs : Int) (i_p0_kitchen_state_seenDays : Int) (i_p0_kitchen_state_bone : Int) (i_p0_kitchen_state_king : Int) (i_p0_kitchen_state_days : Int) (v_p0_kitchen_state_pieces : (Int → Int)) (v_p0_kitchen_state_friends : (Int → Int)) (v_p0_kitchen_places : (Int → Int)) (v_p0_kitchen_holders : (Int → Int)) (v_p0_pots : (Int → Int)) (v_p0_sums : (Int → Int)) (v_p0_kings : (Int → Int)) (v_p0_bones : (Int → Int)) (v_p0_row : (Int → Int)) (x1 : Int) (o_i_p0_days : Int) (o_i_p0_least : Int) (o_v_p0_kitchen_places : (Int → Int)) (o_v_p0_kitchen_holders : (Int → Int)) (o_v_p0_pots : (Int → Int)) (o_v_p0_sums : (Int → Int)) (o_v_p0_kings : (Int → Int)) (o_v_p0_bones : (Int → Int)) (o_v_p0_row : (Int → Int)) (hf : f_X1_begin i_p0_kitchen_rules_seats i_p0_kitchen_state_bone i_p0_kitchen_state_king v_p0_kitchen_state_pieces v_p0_kitchen_state_friends v_p0_kitchen_places v_p0_kitchen_holders v_p0_pots v_p0_sums v_p0_kings v_p0_bones v_p0_row x1 = some (o_i_p0_days, o_i_p0_least, o_v_p0_kitchen_places, o_v_p0_kitchen_holders, o_v_p0_pots, o_v_p0_sums, o_v_p0_kings, o_v_p0_bones, o_v_p0_row)) : Met l yX1_begin wsX1_begin rm_X1_begin (pcG D G [.ref a_p0, .int (Int32.ofInt x1)] sz [(a_p0, .inr (1, [.ref a_p0_kitchen, .ref a_p0_pots, .ref a_p0_sums, .ref a_p0_kings, .ref a_p0_bones, .ref a_p0_row, .ref a_p0_bestRow, .int (Int32.ofInt i_p0_days), .int (Int32.ofInt i_p0_least)])), (a_p0_kitchen, .inr (2, [.ref a_p0_kitchen_rules, .ref a_p0_kitchen_state, .ref a_p0_kitchen_places, .ref a_p0_kitchen_holders, .ref a_p0_kitchen_stirred])), (a_p0_kitchen_rules, .inr (6, [.int (Int32.ofInt i_p0_kitchen_rules_seats), .int (Int32.ofInt i_p0_kitchen_rules_stirs), .ref a_p0_kitchen_rules_need, .ref a_p0_kitchen_rules_kind, .ref a_p0_kitchen_rules_first, .ref a_p0_kitchen_rules_second, .ref a_p0_kitchen_rules_after])), (a_p0_kitchen_state, .inr (8, [.ref a_p0_kitchen_state_pieces, .ref a_p0_kitchen_state_friends, .ref a_p0_kitchen_state_spoons, .ref a_p0_kitchen_state_eaten, .ref a_p0_kitchen_state_seen, .int (Int32.ofInt i_p0_kitchen_state_seenDays), .int (Int32.ofInt i_p0_kitchen_state_bone), .int (Int32.ofInt i_p0_kitchen_state_king), .int (Int32.ofInt i_p0_kitchen_state_days)])), (a_p0_kitchen_state_pieces, .inl (G 1, 7, .inl (zA v_p0_kitchen_state_pieces))), (a_p0_kitchen_state_friends, .inl (G 1, 7, .inl (zA v_p0_kitchen_state_friends))), (a_p0_kitchen_places, .inl (G 1, 49, .inl (zA v_p0_kitchen_places))), (a_p0_kitchen_holders, .inl (G 1, 49, .inl (zA v_p0_kitchen_holders))), (a_p0_pots, .inl (G 1, 35, .inl (zA v_p0_pots))), (a_p0_sums, .inl (G 1, 35, .inl (zA v_p0_sums))), (a_p0_kings, .inl (G 1, 5, .inl (zA v_p0_kings))), (a_p0_bones, .inl (G 1, 5, .inl (zA v_p0_bones))), (a_p0_row, .inl (G 1, 4, .inl (zA v_p0_row)))]) (qcV D G [(a_p0, .inr (1, [.ref a_p0_kitchen, .ref a_p0_pots, .ref a_p0_sums, .ref a_p0_kings, .ref a_p0_bones, .ref a_p0_row, .ref a_p0_bestRow, .int (Int32.ofInt o_i_p0_days), .int (Int32.ofInt o_i_p0_least)])), (a_p0_kitchen, .inr (2, [.ref a_p0_kitchen_rules, .ref a_p0_kitchen_state, .ref a_p0_kitchen_places, .ref a_p0_kitchen_holders, .ref a_p0_kitchen_stirred])), (a_p0_kitchen_rules, .inr (6, [.int (Int32.ofInt i_p0_kitchen_rules_seats), .int (Int32.ofInt i_p0_kitchen_rules_stirs), .ref a_p0_kitchen_rules_need, .ref a_p0_kitchen_rules_kind, .ref a_p0_kitchen_rules_first, .ref a_p0_kitchen_rules_second, .ref a_p0_kitchen_rules_after])), (a_p0_kitchen_state, .inr (8, [.ref a_p0_kitchen_state_pieces, .ref a_p0_kitchen_state_friends, .ref a_p0_kitchen_state_spoons, .ref a_p0_kitchen_state_eaten, .ref a_p0_kitchen_state_seen, .int (Int32.ofInt i_p0_kitchen_state_seenDays), .int (Int32.ofInt i_p0_kitchen_state_bone), .int (Int32.ofInt i_p0_kitchen_state_king), .int (Int32.ofInt i_p0_kitchen_state_days)])), (a_p0_kitchen_state_pieces, .inl (G 1, 7, .inl (zA v_p0_kitchen_state_pieces))), (a_p0_kitchen_state_friends, .inl (G 1, 7, .inl (zA v_p0_kitchen_state_friends))), (a_p0_kitchen_places, .inl (G 1, 49, .inl (zA o_v_p0_kitchen_places))), (a_p0_kitchen_holders, .inl (G 1, 49, .inl (zA o_v_p0_kitchen_holders))), (a_p0_pots, .inl (G 1, 35, .inl (zA o_v_p0_pots))), (a_p0_sums, .inl (G 1, 35, .inl (zA o_v_p0_sums))), (a_p0_kings, .inl (G 1, 5, .inl (zA o_v_p0_kings))), (a_p0_bones, .inl (G 1, 5, .inl (zA o_v_p0_bones))), (a_p0_row, .inl (G 1, 4, .inl (zA o_v_p0_row)))] (va_A [(a_p0, .inr (1, [.ref a_p0_kitchen, .ref a_p0_pots, .ref a_p0_sums, .ref a_p0_kings, .ref a_p0_bones, .ref a_p0_row, .ref a_p0_bestRow, .int (Int32.ofInt i_p0_days), .int (Int32.ofInt i_p0_least)])), (a_p0_kitchen, .inr (2, [.ref a_p0_kitchen_rules, .ref a_p0_kitchen_state, .ref a_p0_kitchen_places, .ref a_p0_kitchen_holders, .ref a_p0_kitchen_stirred])), (a_p0_kitchen_rules, .inr (6, [.int (Int32.ofInt i_p0_kitchen_rules_seats), .int (Int32.ofInt i_p0_kitchen_rules_stirs), .ref a_p0_kitchen_rules_need, .ref a_p0_kitchen_rules_kind, .ref a_p0_kitchen_rules_first, .ref a_p0_kitchen_rules_second, .ref a_p0_kitchen_rules_after])), (a_p0_kitchen_state, .inr (8, [.ref a_p0_kitchen_state_pieces, .ref a_p0_kitchen_state_friends, .ref a_p0_kitchen_state_spoons, .ref a_p0_kitchen_state_eaten, .ref a_p0_kitchen_state_seen, .int (Int32.ofInt i_p0_kitchen_state_seenDays), .int (Int32.ofInt i_p0_kitchen_state_bone), .int (Int32.ofInt i_p0_kitchen_state_king), .int (Int32.ofInt i_p0_kitchen_state_days)])), (a_p0_kitchen_state_pieces, .inl (G 1, 7, .inl (zA v_p0_kitchen_state_pieces))), (a_p0_kitchen_state_friends, .inl (G 1, 7, .inl (zA v_p0_kitchen_state_friends))), (a_p0_kitchen_places, .inl (G 1, 49, .inl (zA v_p0_kitchen_places))), (a_p0_kitchen_holders, .inl (G 1, 49, .inl (zA v_p0_kitchen_holders))), (a_p0_pots, .inl (G 1, 35, .inl (zA v_p0_pots))), (a_p0_sums, .inl (G 1, 35, .inl (zA v_p0_sums))), (a_p0_kings, .inl (G 1, 5, .inl (zA v_p0_kings))), (a_p0_bones, .inl (G 1, 5, .inl (zA v_p0_bones))), (a_p0_row, .inl (G 1, 4, .inl (zA v_p0_row)))] sz)) 0 0 (va_A [(a_p0, .inr (1, [.ref a_p0_kitchen, .ref a_p0_pots, .ref a_p0_sums, .ref a_p0_kings, .ref a_p0_bones, .ref a_p0_row, .ref a_p0_bestRow, .int (Int32.ofInt i_p0_days), .int (Int32.ofInt i_p0_least)])), (a_p0_kitchen, .inr (2, [.ref a_p0_kitchen_rules, .ref a_p0_kitchen_state, .ref a_p0_kitchen_places, .ref a_p0_kitchen_holders, .ref a_p0_kitchen_stirred])), (a_p0_kitchen_rules, .inr (6, [.int (Int32.ofInt i_p0_kitchen_rules_seats), .int (Int32.ofInt i_p0_kitchen_rules_stirs), .ref a_p0_kitchen_rules_need, .ref a_p0_kitchen_rules_kind, .ref a_p0_kitchen_rules_first, .ref a_p0_kitchen_rules_second, .ref a_p0_kitchen_rules_after])), (a_p0_kitchen_state, .inr (8, [.ref a_p0_kitchen_state_pieces, .ref a_p0_kitchen_state_friends, .ref a_p0_kitchen_state_spoons, .ref a_p0_kitchen_state_eaten, .ref a_p0_kitchen_state_seen, .int (Int32.ofInt i_p0_kitchen_state_seenDays), .int (Int32.ofInt i_p0_kitchen_state_bone), .int (Int32.ofInt i_p0_kitchen_state_king), .int (Int32.ofInt i_p0_kitchen_state_days)])), (a_p0_kitchen_state_pieces, .inl (G 1, 7, .inl (zA v_p0_kitchen_state_pieces))), (a_p0_kitchen_state_friends, .inl (G 1, 7, .inl (zA v_p0_kitchen_state_friends))), (a_p0_kitchen_places, .inl (G 1, 49, .inl (zA v_p0_kitchen_places))), (a_p0_kitchen_holders, .inl (G 1, 49, .inl (zA v_p0_kitchen_holders))), (a_p0_pots, .inl (G 1, 35, .inl (zA v_p0_pots))), (a_p0_sums, .inl (G 1, 35, .inl (zA v_p0_sums))), (a_p0_kings, .inl (G 1, 5, .inl (zA v_p0_kings))), (a_p0_bones, .inl (G 1, 5, .inl (zA v_p0_bones))), (a_p0_row, .inl (G 1, 4, .inl (zA v_p0_row)))] sz) := by
  refine Met.ofW (cc := cX1_begin) (maxL := 2) (ret := none) (by decide) rfl ?_
  intro p e s m args below meth c s₁ B hml hv
  obtain ⟨rfl, hsz, hP, hK, hD0⟩ := hv
  have hx := B.exec
  have hb := B.bytes
  have hr := B.returns
  have hts := atoms_spec (ws := wsX1_begin) B.pre
  have hown : s.vm.findClass RX1 = some m.cls := findClass_of_methodNamed B.named
  have hlocks := B.notSynchronized
  subst hsz
  have hD := hD0.self (sz := s.heap.size)
  generalize hAe : va_A [(a_p0, .inr (1, [.ref a_p0_kitchen, .ref a_p0_pots, .ref a_p0_sums, .ref a_p0_kings, .ref a_p0_bones, .ref a_p0_row, .ref a_p0_bestRow, .int (Int32.ofInt i_p0_days), .int (Int32.ofInt i_p0_least)])), (a_p0_kitchen, .inr (2, [.ref a_p0_kitchen_rules, .ref a_p0_kitchen_state, .ref a_p0_kitchen_places, .ref a_p0_kitchen_holders, .ref a_p0_kitchen_stirred])), (a_p0_kitchen_rules, .inr (6, [.int (Int32.ofInt i_p0_kitchen_rules_seats), .int (Int32.ofInt i_p0_kitchen_rules_stirs), .ref a_p0_kitchen_rules_need, .ref a_p0_kitchen_rules_kind, .ref a_p0_kitchen_rules_first, .ref a_p0_kitchen_rules_second, .ref a_p0_kitchen_rules_after])), (a_p0_kitchen_state, .inr (8, [.ref a_p0_kitchen_state_pieces, .ref a_p0_kitchen_state_friends, .ref a_p0_kitchen_state_spoons, .ref a_p0_kitchen_state_eaten, .ref a_p0_kitchen_state_seen, .int (Int32.ofInt i_p0_kitchen_state_seenDays), .int (Int32.ofInt i_p0_kitchen_state_bone), .int (Int32.ofInt i_p0_kitchen_state_king), .int (Int32.ofInt i_p0_kitchen_state_days)])), (a_p0_kitchen_state_pieces, .inl (G 1, 7, .inl (zA v_p0_kitchen_state_pieces))), (a_p0_kitchen_state_friends, .inl (G 1, 7, .inl (zA v_p0_kitchen_state_friends))), (a_p0_kitchen_places, .inl (G 1, 49, .inl (zA v_p0_kitchen_places))), (a_p0_kitchen_holders, .inl (G 1, 49, .inl (zA v_p0_kitchen_holders))), (a_p0_pots, .inl (G 1, 35, .inl (zA v_p0_pots))), (a_p0_sums, .inl (G 1, 35, .inl (zA v_p0_sums))), (a_p0_kings, .inl (G 1, 5, .inl (zA v_p0_kings))), (a_p0_bones, .inl (G 1, 5, .inl (zA v_p0_bones))), (a_p0_row, .inl (G 1, 4, .inl (zA v_p0_row)))] s.heap.size = A at hD ⊢
  have hA : ∀ q : Nat, s.heap.size ≤ q → A q := fun q h => by rw [← hAe]; exact Or.inr h
  clear hAe hD0
  have hS : va_S A s.heap s.heap [] := va_S.rf
  have hl := lv_entry ([.ref a_p0, .int (Int32.ofInt x1)]) (n := 2) (Nat.le_of_ble_eq_true rfl)
  rw [lg_entry_eq]
  generalize (lg_sl ([.ref a_p0, .int (Int32.ofInt x1)]) ++ List.replicate (2 - (lg_sl ([.ref a_p0, .int (Int32.ofInt x1)])).length) Slot.unset).toArray = ls at hl ⊢
  have hl : lv_has ls 2 [(0, .ref a_p0), (1, .int (Int32.ofInt x1))] := hl
  refine W_nameQ (fun Q hQ => ?_)
  obtain ⟨H, hH⟩ : ∃ H, H = s.heap := ⟨_, rfl⟩
  replace hS : va_S A s.heap H [] := by rw [hH]; exact hS
  replace hP : va_P D vwCl [(a_p0, .inr (1, [.ref a_p0_kitchen, .ref a_p0_pots, .ref a_p0_sums, .ref a_p0_kings, .ref a_p0_bones, .ref a_p0_row, .ref a_p0_bestRow, .int (Int32.ofInt i_p0_days), .int (Int32.ofInt i_p0_least)])), (a_p0_kitchen, .inr (2, [.ref a_p0_kitchen_rules, .ref a_p0_kitchen_state, .ref a_p0_kitchen_places, .ref a_p0_kitchen_holders, .ref a_p0_kitchen_stirred])), (a_p0_kitchen_rules, .inr (6, [.int (Int32.ofInt i_p0_kitchen_rules_seats), .int (Int32.ofInt i_p0_kitchen_rules_stirs), .ref a_p0_kitchen_rules_need, .ref a_p0_kitchen_rules_kind, .ref a_p0_kitchen_rules_first, .ref a_p0_kitchen_rules_second, .ref a_p0_kitchen_rules_after])), (a_p0_kitchen_state, .inr (8, [.ref a_p0_kitchen_state_pieces, .ref a_p0_kitchen_state_friends, .ref a_p0_kitchen_state_spoons, .ref a_p0_kitchen_state_eaten, .ref a_p0_kitchen_state_seen, .int (Int32.ofInt i_p0_kitchen_state_seenDays), .int (Int32.ofInt i_p0_kitchen_state_bone), .int (Int32.ofInt i_p0_kitchen_state_king), .int (Int32.ofInt i_p0_kitchen_state_days)])), (a_p0_kitchen_state_pieces, .inl (G 1, 7, .inl (zA v_p0_kitchen_state_pieces))), (a_p0_kitchen_state_friends, .inl (G 1, 7, .inl (zA v_p0_kitchen_state_friends))), (a_p0_kitchen_places, .inl (G 1, 49, .inl (zA v_p0_kitchen_places))), (a_p0_kitchen_holders, .inl (G 1, 49, .inl (zA v_p0_kitchen_holders))), (a_p0_pots, .inl (G 1, 35, .inl (zA v_p0_pots))), (a_p0_sums, .inl (G 1, 35, .inl (zA v_p0_sums))), (a_p0_kings, .inl (G 1, 5, .inl (zA v_p0_kings))), (a_p0_bones, .inl (G 1, 5, .inl (zA v_p0_bones))), (a_p0_row, .inl (G 1, 4, .inl (zA v_p0_row)))] H := by rw [hH]; exact hP
  rw [← hH]
  clear hH
  unfold f_X1_begin at hf
  refine lv_aload_n hx hb dX1_begin_0 rfl (lv_at hl 0 rfl) ?_
  refine va_get (D := D) (ci := 1) (v := .ref a_p0_kitchen) (C := RX1) (T := TX1) (N := 9) hx hb hts inX1_begin_X1 hown hK hP 0 rfl rfl 0 (by decide) (hts _ mwX1_begin_1) (fun _ h9 => h9) rfl dX1_begin_1 ?_
  have hq := bd2_s hf
  clear hf
  obtain ⟨w1, w2, hcall, hf⟩ := hq
  refine gsV (ws' := [(a_p0, .inr (1, [.ref a_p0_kitchen, .ref a_p0_pots, .ref a_p0_sums, .ref a_p0_kings, .ref a_p0_bones, .ref a_p0_row, .ref a_p0_bestRow, .int (Int32.ofInt i_p0_days), .int (Int32.ofInt i_p0_least)])), (a_p0_kitchen, .inr (2, [.ref a_p0_kitchen_rules, .ref a_p0_kitchen_state, .ref a_p0_kitchen_places, .ref a_p0_kitchen_holders, .ref a_p0_kitchen_stirred])), (a_p0_kitchen_rules, .inr (6, [.int (Int32.ofInt i_p0_kitchen_rules_seats), .int (Int32.ofInt i_p0_kitchen_rules_stirs), .ref a_p0_kitchen_rules_need, .ref a_p0_kitchen_rules_kind, .ref a_p0_kitchen_rules_first, .ref a_p0_kitchen_rules_second, .ref a_p0_kitchen_rules_after])), (a_p0_kitchen_state, .inr (8, [.ref a_p0_kitchen_state_pieces, .ref a_p0_kitchen_state_friends, .ref a_p0_kitchen_state_spoons, .ref a_p0_kitchen_state_eaten, .ref a_p0_kitchen_state_seen, .int (Int32.ofInt i_p0_kitchen_state_seenDays), .int (Int32.ofInt i_p0_kitchen_state_bone), .int (Int32.ofInt i_p0_kitchen_state_king), .int (Int32.ofInt i_p0_kitchen_state_days)])), (a_p0_kitchen_state_pieces, .inl (G 1, 7, .inl (zA v_p0_kitchen_state_pieces))), (a_p0_kitchen_state_friends, .inl (G 1, 7, .inl (zA v_p0_kitchen_state_friends))), (a_p0_kitchen_places, .inl (G 1, 49, .inl (zA w1))), (a_p0_kitchen_holders, .inl (G 1, 49, .inl (zA w2))), (a_p0_pots, .inl (G 1, 35, .inl (zA v_p0_pots))), (a_p0_sums, .inl (G 1, 35, .inl (zA v_p0_sums))), (a_p0_kings, .inl (G 1, 5, .inl (zA v_p0_kings))), (a_p0_bones, .inl (G 1, 5, .inl (zA v_p0_bones))), (a_p0_row, .inl (G 1, 4, .inl (zA v_p0_row)))]) (va_runV (As := []) (rest := []) ⟨hx, hb, hml, hown, hts⟩ (c_X2_serveAllKings (l := l) (D := D) (G := G) (sz := H.size) (a_p0 := a_p0_kitchen) (a_p0_rules := a_p0_kitchen_rules) (a_p0_state := a_p0_kitchen_state) (a_p0_places := a_p0_kitchen_places) (a_p0_holders := a_p0_kitchen_holders) (a_p0_stirred := a_p0_kitchen_stirred) (a_p0_rules_need := a_p0_kitchen_rules_need) (a_p0_rules_kind := a_p0_kitchen_rules_kind) (a_p0_rules_first := a_p0_kitchen_rules_first) (a_p0_rules_second := a_p0_kitchen_rules_second) (a_p0_rules_after := a_p0_kitchen_rules_after) (a_p0_state_pieces := a_p0_kitchen_state_pieces) (a_p0_state_friends := a_p0_kitchen_state_friends) (a_p0_state_spoons := a_p0_kitchen_state_spoons) (a_p0_state_eaten := a_p0_kitchen_state_eaten) (a_p0_state_seen := a_p0_kitchen_state_seen) (i_p0_rules_seats := i_p0_kitchen_rules_seats) (i_p0_rules_stirs := i_p0_kitchen_rules_stirs) (i_p0_state_seenDays := i_p0_kitchen_state_seenDays) (i_p0_state_bone := i_p0_kitchen_state_bone) (i_p0_state_king := i_p0_kitchen_state_king) (i_p0_state_days := i_p0_kitchen_state_days) (v_p0_state_friends := v_p0_kitchen_state_friends) (v_p0_places := v_p0_kitchen_places) (v_p0_holders := v_p0_kitchen_holders) (o_v_p0_places := w1) (o_v_p0_holders := w2) (hf := hcall)) (cwV 0 hts gX1_begin_X2_serveAllKings rfl rfl rfl hdV_yX2_serveAllKings_RX2 ⟨Nat.le_of_ble_eq_true rfl, Nat.le_of_ble_eq_true rfl⟩) (preG_V (ci := 2) (q := (RX2, TX2, 5)) (hP.sub [1, 2, 3, 5, 6, 7] rfl) (hD.sub [1, 2, 3, 5, 6, 7] rfl rfl) hK rfl rfl) rfl rfl hl.1 rfl (lv_room (Nat.le_of_ble_eq_true rfl)) dX1_begin_4 ⟨Nat.le_of_ble_eq_true rfl, Nat.le_of_ble_eq_true rfl⟩) hP hD hS hA [1, 2, 3, 5, 6, 7] rfl rfl rfl (fun H locs hP hD hS => ?_)
  clear hcall
  refine lv_aload_n hx hb dX1_begin_7 rfl (lv_at hl 0 rfl) ?_
  refine lv_iload_n hx hb dX1_begin_8 rfl (lv_at hl 1 rfl) ?_
  refine z_topi (fun z3 ez => ?_)
  replace hf := bnd_s hf ez
  clear ez
  refine va_put (D := D) (ci := 1) (v := .int (Int32.ofInt z3)) (ty := .int) (C := RX1) (T := TX1) (N := 9) hx hb hts inX1_begin_X1 tyX1 tyX1_ok nmX1 hown hK hP hD hS 0 rfl rfl 7 (by decide) (hts _ mwX1_begin_3) (fun _ h9 => h9) rfl (by decide +kernel) rfl rfl (Nat.le_of_ble_eq_true rfl) dX1_begin_9 (fun H locs hP hD hS => ?_)
  have hP : va_P D vwCl [(a_p0, .inr (1, [.ref a_p0_kitchen, .ref a_p0_pots, .ref a_p0_sums, .ref a_p0_kings, .ref a_p0_bones, .ref a_p0_row, .ref a_p0_bestRow, .int (Int32.ofInt z3), .int (Int32.ofInt i_p0_least)])), (a_p0_kitchen, .inr (2, [.ref a_p0_kitchen_rules, .ref a_p0_kitchen_state, .ref a_p0_kitchen_places, .ref a_p0_kitchen_holders, .ref a_p0_kitchen_stirred])), (a_p0_kitchen_rules, .inr (6, [.int (Int32.ofInt i_p0_kitchen_rules_seats), .int (Int32.ofInt i_p0_kitchen_rules_stirs), .ref a_p0_kitchen_rules_need, .ref a_p0_kitchen_rules_kind, .ref a_p0_kitchen_rules_first, .ref a_p0_kitchen_rules_second, .ref a_p0_kitchen_rules_after])), (a_p0_kitchen_state, .inr (8, [.ref a_p0_kitchen_state_pieces, .ref a_p0_kitchen_state_friends, .ref a_p0_kitchen_state_spoons, .ref a_p0_kitchen_state_eaten, .ref a_p0_kitchen_state_seen, .int (Int32.ofInt i_p0_kitchen_state_seenDays), .int (Int32.ofInt i_p0_kitchen_state_bone), .int (Int32.ofInt i_p0_kitchen_state_king), .int (Int32.ofInt i_p0_kitchen_state_days)])), (a_p0_kitchen_state_pieces, .inl (G 1, 7, .inl (zA v_p0_kitchen_state_pieces))), (a_p0_kitchen_state_friends, .inl (G 1, 7, .inl (zA v_p0_kitchen_state_friends))), (a_p0_kitchen_places, .inl (G 1, 49, .inl (zA w1))), (a_p0_kitchen_holders, .inl (G 1, 49, .inl (zA w2))), (a_p0_pots, .inl (G 1, 35, .inl (zA v_p0_pots))), (a_p0_sums, .inl (G 1, 35, .inl (zA v_p0_sums))), (a_p0_kings, .inl (G 1, 5, .inl (zA v_p0_kings))), (a_p0_bones, .inl (G 1, 5, .inl (zA v_p0_bones))), (a_p0_row, .inl (G 1, 4, .inl (zA v_p0_row)))] H := hP
  have hD : va_D A [(a_p0, .inr (1, [.ref a_p0_kitchen, .ref a_p0_pots, .ref a_p0_sums, .ref a_p0_kings, .ref a_p0_bones, .ref a_p0_row, .ref a_p0_bestRow, .int (Int32.ofInt z3), .int (Int32.ofInt i_p0_least)])), (a_p0_kitchen, .inr (2, [.ref a_p0_kitchen_rules, .ref a_p0_kitchen_state, .ref a_p0_kitchen_places, .ref a_p0_kitchen_holders, .ref a_p0_kitchen_stirred])), (a_p0_kitchen_rules, .inr (6, [.int (Int32.ofInt i_p0_kitchen_rules_seats), .int (Int32.ofInt i_p0_kitchen_rules_stirs), .ref a_p0_kitchen_rules_need, .ref a_p0_kitchen_rules_kind, .ref a_p0_kitchen_rules_first, .ref a_p0_kitchen_rules_second, .ref a_p0_kitchen_rules_after])), (a_p0_kitchen_state, .inr (8, [.ref a_p0_kitchen_state_pieces, .ref a_p0_kitchen_state_friends, .ref a_p0_kitchen_state_spoons, .ref a_p0_kitchen_state_eaten, .ref a_p0_kitchen_state_seen, .int (Int32.ofInt i_p0_kitchen_state_seenDays), .int (Int32.ofInt i_p0_kitchen_state_bone), .int (Int32.ofInt i_p0_kitchen_state_king), .int (Int32.ofInt i_p0_kitchen_state_days)])), (a_p0_kitchen_state_pieces, .inl (G 1, 7, .inl (zA v_p0_kitchen_state_pieces))), (a_p0_kitchen_state_friends, .inl (G 1, 7, .inl (zA v_p0_kitchen_state_friends))), (a_p0_kitchen_places, .inl (G 1, 49, .inl (zA w1))), (a_p0_kitchen_holders, .inl (G 1, 49, .inl (zA w2))), (a_p0_pots, .inl (G 1, 35, .inl (zA v_p0_pots))), (a_p0_sums, .inl (G 1, 35, .inl (zA v_p0_sums))), (a_p0_kings, .inl (G 1, 5, .inl (zA v_p0_kings))), (a_p0_bones, .inl (G 1, 5, .inl (zA v_p0_bones))), (a_p0_row, .inl (G 1, 4, .inl (zA v_p0_row)))] := hD
  refine lv_aload_n hx hb dX1_begin_12 rfl (lv_at hl 0 rfl) ?_
  refine lv_bipush (v := Int32.ofInt (-4 : Int)) hx hb dX1_begin_13 (by decide) ?_
  refine z_topi (fun z4 ez => ?_)
  replace hf := bnd_s hf ez
  clear ez
  refine va_put (D := D) (ci := 1) (v := .int (Int32.ofInt z4)) (ty := .int) (C := RX1) (T := TX1) (N := 9) hx hb hts inX1_begin_X1 tyX1 tyX1_ok nmX1 hown hK hP hD hS 0 rfl rfl 8 (by decide) (hts _ mwX1_begin_4) (fun _ h9 => h9) rfl (by decide +kernel) rfl rfl (Nat.le_of_ble_eq_true rfl) dX1_begin_15 (fun H locs hP hD hS => ?_)
  have hP : va_P D vwCl [(a_p0, .inr (1, [.ref a_p0_kitchen, .ref a_p0_pots, .ref a_p0_sums, .ref a_p0_kings, .ref a_p0_bones, .ref a_p0_row, .ref a_p0_bestRow, .int (Int32.ofInt z3), .int (Int32.ofInt z4)])), (a_p0_kitchen, .inr (2, [.ref a_p0_kitchen_rules, .ref a_p0_kitchen_state, .ref a_p0_kitchen_places, .ref a_p0_kitchen_holders, .ref a_p0_kitchen_stirred])), (a_p0_kitchen_rules, .inr (6, [.int (Int32.ofInt i_p0_kitchen_rules_seats), .int (Int32.ofInt i_p0_kitchen_rules_stirs), .ref a_p0_kitchen_rules_need, .ref a_p0_kitchen_rules_kind, .ref a_p0_kitchen_rules_first, .ref a_p0_kitchen_rules_second, .ref a_p0_kitchen_rules_after])), (a_p0_kitchen_state, .inr (8, [.ref a_p0_kitchen_state_pieces, .ref a_p0_kitchen_state_friends, .ref a_p0_kitchen_state_spoons, .ref a_p0_kitchen_state_eaten, .ref a_p0_kitchen_state_seen, .int (Int32.ofInt i_p0_kitchen_state_seenDays), .int (Int32.ofInt i_p0_kitchen_state_bone), .int (Int32.ofInt i_p0_kitchen_state_king), .int (Int32.ofInt i_p0_kitchen_state_days)])), (a_p0_kitchen_state_pieces, .inl (G 1, 7, .inl (zA v_p0_kitchen_state_pieces))), (a_p0_kitchen_state_friends, .inl (G 1, 7, .inl (zA v_p0_kitchen_state_friends))), (a_p0_kitchen_places, .inl (G 1, 49, .inl (zA w1))), (a_p0_kitchen_holders, .inl (G 1, 49, .inl (zA w2))), (a_p0_pots, .inl (G 1, 35, .inl (zA v_p0_pots))), (a_p0_sums, .inl (G 1, 35, .inl (zA v_p0_sums))), (a_p0_kings, .inl (G 1, 5, .inl (zA v_p0_kings))), (a_p0_bones, .inl (G 1, 5, .inl (zA v_p0_bones))), (a_p0_row, .inl (G 1, 4, .inl (zA v_p0_row)))] H := hP
  have hD : va_D A [(a_p0, .inr (1, [.ref a_p0_kitchen, .ref a_p0_pots, .ref a_p0_sums, .ref a_p0_kings, .ref a_p0_bones, .ref a_p0_row, .ref a_p0_bestRow, .int (Int32.ofInt z3), .int (Int32.ofInt z4)])), (a_p0_kitchen, .inr (2, [.ref a_p0_kitchen_rules, .ref a_p0_kitchen_state, .ref a_p0_kitchen_places, .ref a_p0_kitchen_holders, .ref a_p0_kitchen_stirred])), (a_p0_kitchen_rules, .inr (6, [.int (Int32.ofInt i_p0_kitchen_rules_seats), .int (Int32.ofInt i_p0_kitchen_rules_stirs), .ref a_p0_kitchen_rules_need, .ref a_p0_kitchen_rules_kind, .ref a_p0_kitchen_rules_first, .ref a_p0_kitchen_rules_second, .ref a_p0_kitchen_rules_after])), (a_p0_kitchen_state, .inr (8, [.ref a_p0_kitchen_state_pieces, .ref a_p0_kitchen_state_friends, .ref a_p0_kitchen_state_spoons, .ref a_p0_kitchen_state_eaten, .ref a_p0_kitchen_state_seen, .int (Int32.ofInt i_p0_kitchen_state_seenDays), .int (Int32.ofInt i_p0_kitchen_state_bone), .int (Int32.ofInt i_p0_kitchen_state_king), .int (Int32.ofInt i_p0_kitchen_state_days)])), (a_p0_kitchen_state_pieces, .inl (G 1, 7, .inl (zA v_p0_kitchen_state_pieces))), (a_p0_kitchen_state_friends, .inl (G 1, 7, .inl (zA v_p0_kitchen_state_friends))), (a_p0_kitchen_places, .inl (G 1, 49, .inl (zA w1))), (a_p0_kitchen_holders, .inl (G 1, 49, .inl (zA w2))), (a_p0_pots, .inl (G 1, 35, .inl (zA v_p0_pots))), (a_p0_sums, .inl (G 1, 35, .inl (zA v_p0_sums))), (a_p0_kings, .inl (G 1, 5, .inl (zA v_p0_kings))), (a_p0_bones, .inl (G 1, 5, .inl (zA v_p0_bones))), (a_p0_row, .inl (G 1, 4, .inl (zA v_p0_row)))] := hD
  refine lv_aload_n hx hb dX1_begin_18 rfl (lv_at hl 0 rfl) ?_
  refine va_get (D := D) (ci := 1) (v := .ref a_p0_kitchen) (C := RX1) (T := TX1) (N := 9) hx hb hts inX1_begin_X1 hown hK hP 0 rfl rfl 0 (by decide) (hts _ mwX1_begin_1) (fun _ h9 => h9) rfl dX1_begin_19 ?_
  refine va_get (D := D) (ci := 2) (v := .ref a_p0_kitchen_state) (C := RX2) (T := TX2) (N := 5) hx hb hts inX1_begin_X2 hown hK hP 1 rfl rfl 1 (by decide) (hts _ mwX1_begin_6) (fun _ h9 => h9) rfl dX1_begin_22 ?_
  refine va_get (D := D) (ci := 8) (v := .ref a_p0_kitchen_state_pieces) (C := RX8) (T := TX8) (N := 9) hx hb hts inX1_begin_X8 hown hK hP 3 rfl rfl 0 (by decide) (hts _ mwX1_begin_8) (fun _ h9 => h9) rfl dX1_begin_25 ?_
  refine lv_iconst (v := Int32.ofInt (0 : Int)) hx hb dX1_begin_28 (by decide) ?_
  refine lv_aload_n hx hb dX1_begin_29 rfl (lv_at hl 0 rfl) ?_
  refine va_get (D := D) (ci := 1) (v := .ref a_p0_pots) (C := RX1) (T := TX1) (N := 9) hx hb hts inX1_begin_X1 hown hK hP 0 rfl rfl 1 (by decide) (hts _ mwX1_begin_9) (fun _ h9 => h9) rfl dX1_begin_30 ?_
  refine lv_iconst (v := Int32.ofInt (0 : Int)) hx hb dX1_begin_33 (by decide) ?_
  refine lv_aload_n hx hb dX1_begin_34 rfl (lv_at hl 0 rfl) ?_
  refine va_get (D := D) (ci := 1) (v := .ref a_p0_kitchen) (C := RX1) (T := TX1) (N := 9) hx hb hts inX1_begin_X1 hown hK hP 0 rfl rfl 0 (by decide) (hts _ mwX1_begin_1) (fun _ h9 => h9) rfl dX1_begin_35 ?_
  refine va_get (D := D) (ci := 2) (v := .ref a_p0_kitchen_rules) (C := RX2) (T := TX2) (N := 5) hx hb hts inX1_begin_X2 hown hK hP 1 rfl rfl 0 (by decide) (hts _ mwX1_begin_10) (fun _ h9 => h9) rfl dX1_begin_38 ?_
  refine va_get (D := D) (ci := 6) (v := .int (Int32.ofInt i_p0_kitchen_rules_seats)) (C := RX6) (T := TX6) (N := 7) hx hb hts inX1_begin_X6 hown hK hP 2 rfl rfl 0 (by decide) (hts _ mwX1_begin_12) (fun _ h9 => h9) rfl dX1_begin_41 ?_
  have hc0 := ck_c hf
  have hc := z_cp_s hc0
  replace hf := ck_r hf
  have hc02 := ck_c hf
  have hc2 := z_cp_s hc02
  replace hf := ck_r hf
  refine va_copyi hx hb (by rw [hml]; exact hl.1.symm) hown (hts _ mwX1_begin_13) (hts _ mwX1_begin_14) (hts _ mwX1_begin_15) (hts _ mwX1_begin_16) hK hP hD hS 4 8 1 1 rfl rfl rfl rfl rfl hc.1 hc2.1 hc.2.1 hc.2.2 hc2.2.2 (fun _ _ => rfl) (Nat.le_of_ble_eq_true rfl) (Nat.le_of_ble_eq_true rfl) dX1_begin_44 (fun H locs hP hD hS => ?_)
  obtain ⟨w5, ez⟩ : ∃ y : (Int → Int), y = (z_cpy v_p0_kitchen_state_pieces v_p0_pots (0 : Int) (0 : Int) i_p0_kitchen_rules_seats) := ⟨_, rfl⟩
  have hP : va_P D vwCl [(a_p0, .inr (1, [.ref a_p0_kitchen, .ref a_p0_pots, .ref a_p0_sums, .ref a_p0_kings, .ref a_p0_bones, .ref a_p0_row, .ref a_p0_bestRow, .int (Int32.ofInt z3), .int (Int32.ofInt z4)])), (a_p0_kitchen, .inr (2, [.ref a_p0_kitchen_rules, .ref a_p0_kitchen_state, .ref a_p0_kitchen_places, .ref a_p0_kitchen_holders, .ref a_p0_kitchen_stirred])), (a_p0_kitchen_rules, .inr (6, [.int (Int32.ofInt i_p0_kitchen_rules_seats), .int (Int32.ofInt i_p0_kitchen_rules_stirs), .ref a_p0_kitchen_rules_need, .ref a_p0_kitchen_rules_kind, .ref a_p0_kitchen_rules_first, .ref a_p0_kitchen_rules_second, .ref a_p0_kitchen_rules_after])), (a_p0_kitchen_state, .inr (8, [.ref a_p0_kitchen_state_pieces, .ref a_p0_kitchen_state_friends, .ref a_p0_kitchen_state_spoons, .ref a_p0_kitchen_state_eaten, .ref a_p0_kitchen_state_seen, .int (Int32.ofInt i_p0_kitchen_state_seenDays), .int (Int32.ofInt i_p0_kitchen_state_bone), .int (Int32.ofInt i_p0_kitchen_state_king), .int (Int32.ofInt i_p0_kitchen_state_days)])), (a_p0_kitchen_state_pieces, .inl (G 1, 7, .inl (zA v_p0_kitchen_state_pieces))), (a_p0_kitchen_state_friends, .inl (G 1, 7, .inl (zA v_p0_kitchen_state_friends))), (a_p0_kitchen_places, .inl (G 1, 49, .inl (zA w1))), (a_p0_kitchen_holders, .inl (G 1, 49, .inl (zA w2))), (a_p0_pots, .inl (G 1, 35, .inl (zA w5))), (a_p0_sums, .inl (G 1, 35, .inl (zA v_p0_sums))), (a_p0_kings, .inl (G 1, 5, .inl (zA v_p0_kings))), (a_p0_bones, .inl (G 1, 5, .inl (zA v_p0_bones))), (a_p0_row, .inl (G 1, 4, .inl (zA v_p0_row)))] H := by rw [ez, ← z_cpy_e hc0 hc02]; exact hP
  have hD : va_D A [(a_p0, .inr (1, [.ref a_p0_kitchen, .ref a_p0_pots, .ref a_p0_sums, .ref a_p0_kings, .ref a_p0_bones, .ref a_p0_row, .ref a_p0_bestRow, .int (Int32.ofInt z3), .int (Int32.ofInt z4)])), (a_p0_kitchen, .inr (2, [.ref a_p0_kitchen_rules, .ref a_p0_kitchen_state, .ref a_p0_kitchen_places, .ref a_p0_kitchen_holders, .ref a_p0_kitchen_stirred])), (a_p0_kitchen_rules, .inr (6, [.int (Int32.ofInt i_p0_kitchen_rules_seats), .int (Int32.ofInt i_p0_kitchen_rules_stirs), .ref a_p0_kitchen_rules_need, .ref a_p0_kitchen_rules_kind, .ref a_p0_kitchen_rules_first, .ref a_p0_kitchen_rules_second, .ref a_p0_kitchen_rules_after])), (a_p0_kitchen_state, .inr (8, [.ref a_p0_kitchen_state_pieces, .ref a_p0_kitchen_state_friends, .ref a_p0_kitchen_state_spoons, .ref a_p0_kitchen_state_eaten, .ref a_p0_kitchen_state_seen, .int (Int32.ofInt i_p0_kitchen_state_seenDays), .int (Int32.ofInt i_p0_kitchen_state_bone), .int (Int32.ofInt i_p0_kitchen_state_king), .int (Int32.ofInt i_p0_kitchen_state_days)])), (a_p0_kitchen_state_pieces, .inl (G 1, 7, .inl (zA v_p0_kitchen_state_pieces))), (a_p0_kitchen_state_friends, .inl (G 1, 7, .inl (zA v_p0_kitchen_state_friends))), (a_p0_kitchen_places, .inl (G 1, 49, .inl (zA w1))), (a_p0_kitchen_holders, .inl (G 1, 49, .inl (zA w2))), (a_p0_pots, .inl (G 1, 35, .inl (zA w5))), (a_p0_sums, .inl (G 1, 35, .inl (zA v_p0_sums))), (a_p0_kings, .inl (G 1, 5, .inl (zA v_p0_kings))), (a_p0_bones, .inl (G 1, 5, .inl (zA v_p0_bones))), (a_p0_row, .inl (G 1, 4, .inl (zA v_p0_row)))] := by rw [ez, ← z_cpy_e hc0 hc02]; exact hD
  replace hf := bnd_s hf ez
  clear ez hc hc2 hc0 hc02
  refine lv_aload_n hx hb dX1_begin_47 rfl (lv_at hl 0 rfl) ?_
  refine va_get (D := D) (ci := 1) (v := .ref a_p0_sums) (C := RX1) (T := TX1) (N := 9) hx hb hts inX1_begin_X1 hown hK hP 0 rfl rfl 2 (by decide) (hts _ mwX1_begin_17) (fun _ h9 => h9) rfl dX1_begin_48 ?_
  refine lv_iconst (v := Int32.ofInt (0 : Int)) hx hb dX1_begin_51 (by decide) ?_
  have hq := bd1_s hf
  clear hf
  obtain ⟨w6, hcall, hf⟩ := hq
  refine gsV (ws' := [(a_p0, .inr (1, [.ref a_p0_kitchen, .ref a_p0_pots, .ref a_p0_sums, .ref a_p0_kings, .ref a_p0_bones, .ref a_p0_row, .ref a_p0_bestRow, .int (Int32.ofInt z3), .int (Int32.ofInt z4)])), (a_p0_kitchen, .inr (2, [.ref a_p0_kitchen_rules, .ref a_p0_kitchen_state, .ref a_p0_kitchen_places, .ref a_p0_kitchen_holders, .ref a_p0_kitchen_stirred])), (a_p0_kitchen_rules, .inr (6, [.int (Int32.ofInt i_p0_kitchen_rules_seats), .int (Int32.ofInt i_p0_kitchen_rules_stirs), .ref a_p0_kitchen_rules_need, .ref a_p0_kitchen_rules_kind, .ref a_p0_kitchen_rules_first, .ref a_p0_kitchen_rules_second, .ref a_p0_kitchen_rules_after])), (a_p0_kitchen_state, .inr (8, [.ref a_p0_kitchen_state_pieces, .ref a_p0_kitchen_state_friends, .ref a_p0_kitchen_state_spoons, .ref a_p0_kitchen_state_eaten, .ref a_p0_kitchen_state_seen, .int (Int32.ofInt i_p0_kitchen_state_seenDays), .int (Int32.ofInt i_p0_kitchen_state_bone), .int (Int32.ofInt i_p0_kitchen_state_king), .int (Int32.ofInt i_p0_kitchen_state_days)])), (a_p0_kitchen_state_pieces, .inl (G 1, 7, .inl (zA v_p0_kitchen_state_pieces))), (a_p0_kitchen_state_friends, .inl (G 1, 7, .inl (zA v_p0_kitchen_state_friends))), (a_p0_kitchen_places, .inl (G 1, 49, .inl (zA w1))), (a_p0_kitchen_holders, .inl (G 1, 49, .inl (zA w2))), (a_p0_pots, .inl (G 1, 35, .inl (zA w5))), (a_p0_sums, .inl (G 1, 35, .inl (zA w6))), (a_p0_kings, .inl (G 1, 5, .inl (zA v_p0_kings))), (a_p0_bones, .inl (G 1, 5, .inl (zA v_p0_bones))), (a_p0_row, .inl (G 1, 4, .inl (zA v_p0_row)))]) (va_runS (As := [.ref a_p0_sums, .int (Int32.ofInt (0 : Int))]) (rest := []) ⟨hx, hb, hml, hown, hts⟩ (c_J7_fill_53178 (l := l) (D := D) (G := G) (sz := H.size) (a_p0 := a_p0_sums) (n_p0 := 35) (v_p0 := v_p0_sums) (x1 := (0 : Int)) (o_v_p0 := w6) (hf := hcall)) (va_cwS 2 hts gX1_begin_J7_fill_53178 rfl rfl rfl (by decide +kernel) ⟨Nat.le_of_ble_eq_true rfl, Nat.le_of_ble_eq_true rfl⟩) (preG_S (hP.sub [9] rfl) (hD.sub [9] rfl rfl) hK) rfl rfl hl.1 rfl (lv_room (Nat.le_of_ble_eq_true rfl)) dX1_begin_52 ⟨Nat.le_of_ble_eq_true rfl, Nat.le_of_ble_eq_true rfl⟩) hP hD hS hA [9] rfl rfl rfl (fun H locs hP hD hS => ?_)
  clear hcall
  refine lv_aload_n hx hb dX1_begin_55 rfl (lv_at hl 0 rfl) ?_
  refine va_get (D := D) (ci := 1) (v := .ref a_p0_row) (C := RX1) (T := TX1) (N := 9) hx hb hts inX1_begin_X1 hown hK hP 0 rfl rfl 5 (by decide) (hts _ mwX1_begin_18) (fun _ h9 => h9) rfl dX1_begin_56 ?_
  refine lv_iconst (v := Int32.ofInt (0 : Int)) hx hb dX1_begin_59 (by decide) ?_
  have hq := bd1_s hf
  clear hf
  obtain ⟨w7, hcall, hf⟩ := hq
  refine gsV (ws' := [(a_p0, .inr (1, [.ref a_p0_kitchen, .ref a_p0_pots, .ref a_p0_sums, .ref a_p0_kings, .ref a_p0_bones, .ref a_p0_row, .ref a_p0_bestRow, .int (Int32.ofInt z3), .int (Int32.ofInt z4)])), (a_p0_kitchen, .inr (2, [.ref a_p0_kitchen_rules, .ref a_p0_kitchen_state, .ref a_p0_kitchen_places, .ref a_p0_kitchen_holders, .ref a_p0_kitchen_stirred])), (a_p0_kitchen_rules, .inr (6, [.int (Int32.ofInt i_p0_kitchen_rules_seats), .int (Int32.ofInt i_p0_kitchen_rules_stirs), .ref a_p0_kitchen_rules_need, .ref a_p0_kitchen_rules_kind, .ref a_p0_kitchen_rules_first, .ref a_p0_kitchen_rules_second, .ref a_p0_kitchen_rules_after])), (a_p0_kitchen_state, .inr (8, [.ref a_p0_kitchen_state_pieces, .ref a_p0_kitchen_state_friends, .ref a_p0_kitchen_state_spoons, .ref a_p0_kitchen_state_eaten, .ref a_p0_kitchen_state_seen, .int (Int32.ofInt i_p0_kitchen_state_seenDays), .int (Int32.ofInt i_p0_kitchen_state_bone), .int (Int32.ofInt i_p0_kitchen_state_king), .int (Int32.ofInt i_p0_kitchen_state_days)])), (a_p0_kitchen_state_pieces, .inl (G 1, 7, .inl (zA v_p0_kitchen_state_pieces))), (a_p0_kitchen_state_friends, .inl (G 1, 7, .inl (zA v_p0_kitchen_state_friends))), (a_p0_kitchen_places, .inl (G 1, 49, .inl (zA w1))), (a_p0_kitchen_holders, .inl (G 1, 49, .inl (zA w2))), (a_p0_pots, .inl (G 1, 35, .inl (zA w5))), (a_p0_sums, .inl (G 1, 35, .inl (zA w6))), (a_p0_kings, .inl (G 1, 5, .inl (zA v_p0_kings))), (a_p0_bones, .inl (G 1, 5, .inl (zA v_p0_bones))), (a_p0_row, .inl (G 1, 4, .inl (zA w7)))]) (va_runS (As := [.ref a_p0_row, .int (Int32.ofInt (0 : Int))]) (rest := []) ⟨hx, hb, hml, hown, hts⟩ (c_J7_fill_53178 (l := l) (D := D) (G := G) (sz := H.size) (a_p0 := a_p0_row) (n_p0 := 4) (v_p0 := v_p0_row) (x1 := (0 : Int)) (o_v_p0 := w7) (hf := hcall)) (va_cwS 2 hts gX1_begin_J7_fill_53178 rfl rfl rfl (by decide +kernel) ⟨Nat.le_of_ble_eq_true rfl, Nat.le_of_ble_eq_true rfl⟩) (preG_S (hP.sub [12] rfl) (hD.sub [12] rfl rfl) hK) rfl rfl hl.1 rfl (lv_room (Nat.le_of_ble_eq_true rfl)) dX1_begin_60 ⟨Nat.le_of_ble_eq_true rfl, Nat.le_of_ble_eq_true rfl⟩) hP hD hS hA [12] rfl rfl rfl (fun H locs hP hD hS => ?_)
  clear hcall
  refine lv_aload_n hx hb dX1_begin_63 rfl (lv_at hl 0 rfl) ?_
  refine va_get (D := D) (ci := 1) (v := .ref a_p0_kings) (C := RX1) (T := TX1) (N := 9) hx hb hts inX1_begin_X1 hown hK hP 0 rfl rfl 3 (by decide) (hts _ mwX1_begin_19) (fun _ h9 => h9) rfl dX1_begin_64 ?_
  refine lv_iconst (v := Int32.ofInt (0 : Int)) hx hb dX1_begin_67 (by decide) ?_
  refine lv_aload_n hx hb dX1_begin_68 rfl (lv_at hl 0 rfl) ?_
  refine va_get (D := D) (ci := 1) (v := .ref a_p0_kitchen) (C := RX1) (T := TX1) (N := 9) hx hb hts inX1_begin_X1 hown hK hP 0 rfl rfl 0 (by decide) (hts _ mwX1_begin_1) (fun _ h9 => h9) rfl dX1_begin_69 ?_
  refine va_get (D := D) (ci := 2) (v := .ref a_p0_kitchen_state) (C := RX2) (T := TX2) (N := 5) hx hb hts inX1_begin_X2 hown hK hP 1 rfl rfl 1 (by decide) (hts _ mwX1_begin_6) (fun _ h9 => h9) rfl dX1_begin_72 ?_
  refine va_get (D := D) (ci := 8) (v := .int (Int32.ofInt i_p0_kitchen_state_king)) (C := RX8) (T := TX8) (N := 9) hx hb hts inX1_begin_X8 hown hK hP 3 rfl rfl 7 (by decide) (hts _ mwX1_begin_20) (fun _ h9 => h9) rfl dX1_begin_75 ?_
  have hc := ck_c hf
  replace hf := ck_r hf
  refine zs_iast (wf := fun w8 => [(a_p0, .inr (1, [.ref a_p0_kitchen, .ref a_p0_pots, .ref a_p0_sums, .ref a_p0_kings, .ref a_p0_bones, .ref a_p0_row, .ref a_p0_bestRow, .int (Int32.ofInt z3), .int (Int32.ofInt z4)])), (a_p0_kitchen, .inr (2, [.ref a_p0_kitchen_rules, .ref a_p0_kitchen_state, .ref a_p0_kitchen_places, .ref a_p0_kitchen_holders, .ref a_p0_kitchen_stirred])), (a_p0_kitchen_rules, .inr (6, [.int (Int32.ofInt i_p0_kitchen_rules_seats), .int (Int32.ofInt i_p0_kitchen_rules_stirs), .ref a_p0_kitchen_rules_need, .ref a_p0_kitchen_rules_kind, .ref a_p0_kitchen_rules_first, .ref a_p0_kitchen_rules_second, .ref a_p0_kitchen_rules_after])), (a_p0_kitchen_state, .inr (8, [.ref a_p0_kitchen_state_pieces, .ref a_p0_kitchen_state_friends, .ref a_p0_kitchen_state_spoons, .ref a_p0_kitchen_state_eaten, .ref a_p0_kitchen_state_seen, .int (Int32.ofInt i_p0_kitchen_state_seenDays), .int (Int32.ofInt i_p0_kitchen_state_bone), .int (Int32.ofInt i_p0_kitchen_state_king), .int (Int32.ofInt i_p0_kitchen_state_days)])), (a_p0_kitchen_state_pieces, .inl (G 1, 7, .inl (zA v_p0_kitchen_state_pieces))), (a_p0_kitchen_state_friends, .inl (G 1, 7, .inl (zA v_p0_kitchen_state_friends))), (a_p0_kitchen_places, .inl (G 1, 49, .inl (zA w1))), (a_p0_kitchen_holders, .inl (G 1, 49, .inl (zA w2))), (a_p0_pots, .inl (G 1, 35, .inl (zA w5))), (a_p0_sums, .inl (G 1, 35, .inl (zA w6))), (a_p0_kings, .inl (G 1, 5, .inl (zA w8))), (a_p0_bones, .inl (G 1, 5, .inl (zA v_p0_bones))), (a_p0_row, .inl (G 1, 4, .inl (zA w7)))]) hx hb hK hP hD hS 10 1 rfl rfl hc dX1_begin_78 (fun _ => rfl) (fun w8 ez H locs hP hD hS => ?_)
  replace hf := bnd_s hf ez
  clear ez hc
  refine lv_aload_n hx hb dX1_begin_79 rfl (lv_at hl 0 rfl) ?_
  refine va_get (D := D) (ci := 1) (v := .ref a_p0_bones) (C := RX1) (T := TX1) (N := 9) hx hb hts inX1_begin_X1 hown hK hP 0 rfl rfl 4 (by decide) (hts _ mwX1_begin_21) (fun _ h9 => h9) rfl dX1_begin_80 ?_
  refine lv_iconst (v := Int32.ofInt (0 : Int)) hx hb dX1_begin_83 (by decide) ?_
  refine lv_aload_n hx hb dX1_begin_84 rfl (lv_at hl 0 rfl) ?_
  refine va_get (D := D) (ci := 1) (v := .ref a_p0_kitchen) (C := RX1) (T := TX1) (N := 9) hx hb hts inX1_begin_X1 hown hK hP 0 rfl rfl 0 (by decide) (hts _ mwX1_begin_1) (fun _ h9 => h9) rfl dX1_begin_85 ?_
  refine va_get (D := D) (ci := 2) (v := .ref a_p0_kitchen_state) (C := RX2) (T := TX2) (N := 5) hx hb hts inX1_begin_X2 hown hK hP 1 rfl rfl 1 (by decide) (hts _ mwX1_begin_6) (fun _ h9 => h9) rfl dX1_begin_88 ?_
  refine va_get (D := D) (ci := 8) (v := .int (Int32.ofInt i_p0_kitchen_state_bone)) (C := RX8) (T := TX8) (N := 9) hx hb hts inX1_begin_X8 hown hK hP 3 rfl rfl 6 (by decide) (hts _ mwX1_begin_22) (fun _ h9 => h9) rfl dX1_begin_91 ?_
  have hc := ck_c hf
  replace hf := ck_r hf
  refine zs_iast (wf := fun w9 => [(a_p0, .inr (1, [.ref a_p0_kitchen, .ref a_p0_pots, .ref a_p0_sums, .ref a_p0_kings, .ref a_p0_bones, .ref a_p0_row, .ref a_p0_bestRow, .int (Int32.ofInt z3), .int (Int32.ofInt z4)])), (a_p0_kitchen, .inr (2, [.ref a_p0_kitchen_rules, .ref a_p0_kitchen_state, .ref a_p0_kitchen_places, .ref a_p0_kitchen_holders, .ref a_p0_kitchen_stirred])), (a_p0_kitchen_rules, .inr (6, [.int (Int32.ofInt i_p0_kitchen_rules_seats), .int (Int32.ofInt i_p0_kitchen_rules_stirs), .ref a_p0_kitchen_rules_need, .ref a_p0_kitchen_rules_kind, .ref a_p0_kitchen_rules_first, .ref a_p0_kitchen_rules_second, .ref a_p0_kitchen_rules_after])), (a_p0_kitchen_state, .inr (8, [.ref a_p0_kitchen_state_pieces, .ref a_p0_kitchen_state_friends, .ref a_p0_kitchen_state_spoons, .ref a_p0_kitchen_state_eaten, .ref a_p0_kitchen_state_seen, .int (Int32.ofInt i_p0_kitchen_state_seenDays), .int (Int32.ofInt i_p0_kitchen_state_bone), .int (Int32.ofInt i_p0_kitchen_state_king), .int (Int32.ofInt i_p0_kitchen_state_days)])), (a_p0_kitchen_state_pieces, .inl (G 1, 7, .inl (zA v_p0_kitchen_state_pieces))), (a_p0_kitchen_state_friends, .inl (G 1, 7, .inl (zA v_p0_kitchen_state_friends))), (a_p0_kitchen_places, .inl (G 1, 49, .inl (zA w1))), (a_p0_kitchen_holders, .inl (G 1, 49, .inl (zA w2))), (a_p0_pots, .inl (G 1, 35, .inl (zA w5))), (a_p0_sums, .inl (G 1, 35, .inl (zA w6))), (a_p0_kings, .inl (G 1, 5, .inl (zA w8))), (a_p0_bones, .inl (G 1, 5, .inl (zA w9))), (a_p0_row, .inl (G 1, 4, .inl (zA w7)))]) hx hb hK hP hD hS 11 1 rfl rfl hc dX1_begin_94 (fun _ => rfl) (fun w9 ez H locs hP hD hS => ?_)
  replace hf := bnd_s hf ez
  clear ez hc
  obtain ⟨rfl, rfl, rfl, rfl, rfl, rfl, rfl, rfl, rfl⟩ := ou9 hf
  rw [hQ]
  exact W.vret hx hb hr (fun t ht hW => ⟨⟨(), rfl, trivial, by rw [ht]; exact hP, va_K.moved hW.alike hK, hD⟩, hS.F ht⟩) hS.2.2 dX1_begin_95

noncomputable def f_X6_placeAfter (v_p0_after : (Int → Int)) (x1 : Int) (x2 : Int) : Option (Int) := (ck (z_ix ((x1 * (7 : Int)) + x2) 35) (some (v_p0_after ((x1 * (7 : Int)) + x2))))
abbrev rm_X6_placeAfter : Room := { frames := 0, cells := 0, slots := 0, locals := 0 }
theorem inX6_placeAfter_X6 : ∀ w ∈ wsX60, w ∈ wsX6_placeAfter := by first | exact fun w h => List.mem_cons_of_mem _ (List.mem_append_right _ h) | decide +kernel
theorem mwX6_placeAfter_1 : Cond.fieldLink RX6 31 "LadleKings$Rules" "after" "[I" ∈ wsX6_placeAfter := by first | exact List.mem_of_getElem? (i := 1) rfl | decide +kernel
set_option maxHeartbeats 8000000 in
set_option maxRecDepth 100000 in
theorem c_X6_placeAfter (l : Launch) (D : va_G) (G : Nat → ClassId) (sz : Nat) (a_p0 : Nat) (a_p0_need : Nat) (a_p0_kind : Nat) (a_p0_first : Nat) (a_p0_second : Nat) (a_p0_after : Nat) (i_p0_seats : Int) (i_p0_stirs : Int) (v_p0_after : (Int → Int)) (x1 : Int) (x2 : Int) (r : Int) (hf : f_X6_placeAfter v_p0_after x1 x2 = some r) : Met l yX6_placeAfter wsX6_placeAfter rm_X6_placeAfter (pcG D G [.ref a_p0, .int (Int32.ofInt x1), .int (Int32.ofInt x2)] sz [(a_p0, .inr (6, [.int (Int32.ofInt i_p0_seats), .int (Int32.ofInt i_p0_stirs), .ref a_p0_need, .ref a_p0_kind, .ref a_p0_first, .ref a_p0_second, .ref a_p0_after])), (a_p0_after, .inl (G 1, 35, .inl (zA v_p0_after)))]) (qcI D G (Int32.ofInt r) [(a_p0, .inr (6, [.int (Int32.ofInt i_p0_seats), .int (Int32.ofInt i_p0_stirs), .ref a_p0_need, .ref a_p0_kind, .ref a_p0_first, .ref a_p0_second, .ref a_p0_after])), (a_p0_after, .inl (G 1, 35, .inl (zA v_p0_after)))] (va_A [(a_p0, .inr (6, [.int (Int32.ofInt i_p0_seats), .int (Int32.ofInt i_p0_stirs), .ref a_p0_need, .ref a_p0_kind, .ref a_p0_first, .ref a_p0_second, .ref a_p0_after])), (a_p0_after, .inl (G 1, 35, .inl (zA v_p0_after)))] sz)) 0 0 (va_A [(a_p0, .inr (6, [.int (Int32.ofInt i_p0_seats), .int (Int32.ofInt i_p0_stirs), .ref a_p0_need, .ref a_p0_kind, .ref a_p0_first, .ref a_p0_second, .ref a_p0_after])), (a_p0_after, .inl (G 1, 35, .inl (zA v_p0_after)))] sz) := by
  refine Met.ofW (cc := cX6_placeAfter) (maxL := 3) (ret := (some .int)) (by decide) rfl ?_
  intro p e s m args below meth c s₁ B hml hv
  obtain ⟨rfl, hsz, hP, hK, hD0⟩ := hv
  have hx := B.exec
  have hb := B.bytes
  have hr := B.returns
  have hts := atoms_spec (ws := wsX6_placeAfter) B.pre
  have hown : s.vm.findClass RX6 = some m.cls := findClass_of_methodNamed B.named
  have hlocks := B.notSynchronized
  subst hsz
  have hD := hD0.self (sz := s.heap.size)
  generalize hAe : va_A [(a_p0, .inr (6, [.int (Int32.ofInt i_p0_seats), .int (Int32.ofInt i_p0_stirs), .ref a_p0_need, .ref a_p0_kind, .ref a_p0_first, .ref a_p0_second, .ref a_p0_after])), (a_p0_after, .inl (G 1, 35, .inl (zA v_p0_after)))] s.heap.size = A at hD ⊢
  have hA : ∀ q : Nat, s.heap.size ≤ q → A q := fun q h => by rw [← hAe]; exact Or.inr h
  clear hAe hD0
  have hS : va_S A s.heap s.heap [] := va_S.rf
  have hl := lv_entry ([.ref a_p0, .int (Int32.ofInt x1), .int (Int32.ofInt x2)]) (n := 3) (Nat.le_of_ble_eq_true rfl)
  rw [lg_entry_eq]
  generalize (lg_sl ([.ref a_p0, .int (Int32.ofInt x1), .int (Int32.ofInt x2)]) ++ List.replicate (3 - (lg_sl ([.ref a_p0, .int (Int32.ofInt x1), .int (Int32.ofInt x2)])).length) Slot.unset).toArray = ls at hl ⊢
  have hl : lv_has ls 3 [(0, .ref a_p0), (1, .int (Int32.ofInt x1)), (2, .int (Int32.ofInt x2))] := hl
  refine W_nameQ (fun Q hQ => ?_)
  obtain ⟨H, hH⟩ : ∃ H, H = s.heap := ⟨_, rfl⟩
  replace hS : va_S A s.heap H [] := by rw [hH]; exact hS
  replace hP : va_P D vwCl [(a_p0, .inr (6, [.int (Int32.ofInt i_p0_seats), .int (Int32.ofInt i_p0_stirs), .ref a_p0_need, .ref a_p0_kind, .ref a_p0_first, .ref a_p0_second, .ref a_p0_after])), (a_p0_after, .inl (G 1, 35, .inl (zA v_p0_after)))] H := by rw [hH]; exact hP
  rw [← hH]
  clear hH
  unfold f_X6_placeAfter at hf
  refine lv_aload_n hx hb dX6_placeAfter_0 rfl (lv_at hl 0 rfl) ?_
  refine va_get (D := D) (ci := 6) (v := .ref a_p0_after) (C := RX6) (T := TX6) (N := 7) hx hb hts inX6_placeAfter_X6 hown hK hP 0 rfl rfl 6 (by decide) (hts _ mwX6_placeAfter_1) (fun _ h9 => h9) rfl dX6_placeAfter_1 ?_
  refine lv_iload_n hx hb dX6_placeAfter_4 rfl (lv_at hl 1 rfl) ?_
  refine lv_bipush (v := Int32.ofInt (7 : Int)) hx hb dX6_placeAfter_5 (by decide) ?_
  refine lv_imul hx hb dX6_placeAfter_7 (z_ci (Int32.ofInt_mul x1 (7 : Int)) ?_)
  refine lv_iload_n hx hb dX6_placeAfter_8 rfl (lv_at hl 2 rfl) ?_
  refine lv_iadd hx hb dX6_placeAfter_9 (z_ci (Int32.ofInt_add (x1 * (7 : Int)) x2) ?_)
  have hc := ck_c hf
  replace hf := ck_r hf
  refine va_iald hx hb hK hP 1 1 rfl rfl (z_ix_in hc) dX6_placeAfter_10 (z_ci (z_ald v_p0_after hc) ?_)
  clear hc
  obtain rfl := ou1 hf
  rw [hQ]
  exact W.iret hx hb hr (fun t ht hW => ⟨⟨_, (), rfl, rfl, by rw [ht]; exact hP, va_K.moved hW.alike hK, hD⟩, hS.F ht⟩) hS.2.2 dX6_placeAfter_11

noncomputable def f_X2_holderOf (v_p0_holders : (Int → Int)) (x1 : Int) (x2 : Int) : Option (Int) := (ck (z_ix ((x1 * (7 : Int)) + x2) 49) (some (v_p0_holders ((x1 * (7 : Int)) + x2))))
abbrev rm_X2_holderOf : Room := { frames := 0, cells := 0, slots := 0, locals := 0 }
theorem inX2_holderOf_X2 : ∀ w ∈ wsX20, w ∈ wsX2_holderOf := by first | exact fun w h => List.mem_cons_of_mem _ (List.mem_append_right _ h) | decide +kernel
theorem mwX2_holderOf_1 : Cond.fieldLink RX2 15 "LadleKings$Kitchen" "holders" "[I" ∈ wsX2_holderOf := by first | exact List.mem_of_getElem? (i := 1) rfl | decide +kernel
set_option maxHeartbeats 8000000 in
set_option maxRecDepth 100000 in
theorem c_X2_holderOf (l : Launch) (D : va_G) (G : Nat → ClassId) (sz : Nat) (a_p0 : Nat) (a_p0_rules : Nat) (a_p0_state : Nat) (a_p0_places : Nat) (a_p0_holders : Nat) (a_p0_stirred : Nat) (v_p0_holders : (Int → Int)) (x1 : Int) (x2 : Int) (r : Int) (hf : f_X2_holderOf v_p0_holders x1 x2 = some r) : Met l yX2_holderOf wsX2_holderOf rm_X2_holderOf (pcG D G [.ref a_p0, .int (Int32.ofInt x1), .int (Int32.ofInt x2)] sz [(a_p0, .inr (2, [.ref a_p0_rules, .ref a_p0_state, .ref a_p0_places, .ref a_p0_holders, .ref a_p0_stirred])), (a_p0_holders, .inl (G 1, 49, .inl (zA v_p0_holders)))]) (qcI D G (Int32.ofInt r) [(a_p0, .inr (2, [.ref a_p0_rules, .ref a_p0_state, .ref a_p0_places, .ref a_p0_holders, .ref a_p0_stirred])), (a_p0_holders, .inl (G 1, 49, .inl (zA v_p0_holders)))] (va_A [(a_p0, .inr (2, [.ref a_p0_rules, .ref a_p0_state, .ref a_p0_places, .ref a_p0_holders, .ref a_p0_stirred])), (a_p0_holders, .inl (G 1, 49, .inl (zA v_p0_holders)))] sz)) 0 0 (va_A [(a_p0, .inr (2, [.ref a_p0_rules, .ref a_p0_state, .ref a_p0_places, .ref a_p0_holders, .ref a_p0_stirred])), (a_p0_holders, .inl (G 1, 49, .inl (zA v_p0_holders)))] sz) := by
  refine Met.ofW (cc := cX2_holderOf) (maxL := 3) (ret := (some .int)) (by decide) rfl ?_
  intro p e s m args below meth c s₁ B hml hv
  obtain ⟨rfl, hsz, hP, hK, hD0⟩ := hv
  have hx := B.exec
  have hb := B.bytes
  have hr := B.returns
  have hts := atoms_spec (ws := wsX2_holderOf) B.pre
  have hown : s.vm.findClass RX2 = some m.cls := findClass_of_methodNamed B.named
  have hlocks := B.notSynchronized
  subst hsz
  have hD := hD0.self (sz := s.heap.size)
  generalize hAe : va_A [(a_p0, .inr (2, [.ref a_p0_rules, .ref a_p0_state, .ref a_p0_places, .ref a_p0_holders, .ref a_p0_stirred])), (a_p0_holders, .inl (G 1, 49, .inl (zA v_p0_holders)))] s.heap.size = A at hD ⊢
  have hA : ∀ q : Nat, s.heap.size ≤ q → A q := fun q h => by rw [← hAe]; exact Or.inr h
  clear hAe hD0
  have hS : va_S A s.heap s.heap [] := va_S.rf
  have hl := lv_entry ([.ref a_p0, .int (Int32.ofInt x1), .int (Int32.ofInt x2)]) (n := 3) (Nat.le_of_ble_eq_true rfl)
  rw [lg_entry_eq]
  generalize (lg_sl ([.ref a_p0, .int (Int32.ofInt x1), .int (Int32.ofInt x2)]) ++ List.replicate (3 - (lg_sl ([.ref a_p0, .int (Int32.ofInt x1), .int (Int32.ofInt x2)])).length) Slot.unset).toArray = ls at hl ⊢
  have hl : lv_has ls 3 [(0, .ref a_p0), (1, .int (Int32.ofInt x1)), (2, .int (Int32.ofInt x2))] := hl
  refine W_nameQ (fun Q hQ => ?_)
  obtain ⟨H, hH⟩ : ∃ H, H = s.heap := ⟨_, rfl⟩
  replace hS : va_S A s.heap H [] := by rw [hH]; exact hS
  replace hP : va_P D vwCl [(a_p0, .inr (2, [.ref a_p0_rules, .ref a_p0_state, .ref a_p0_places, .ref a_p0_holders, .ref a_p0_stirred])), (a_p0_holders, .inl (G 1, 49, .inl (zA v_p0_holders)))] H := by rw [hH]; exact hP
  rw [← hH]
  clear hH
  unfold f_X2_holderOf at hf
  refine lv_aload_n hx hb dX2_holderOf_0 rfl (lv_at hl 0 rfl) ?_
  refine va_get (D := D) (ci := 2) (v := .ref a_p0_holders) (C := RX2) (T := TX2) (N := 5) hx hb hts inX2_holderOf_X2 hown hK hP 0 rfl rfl 3 (by decide) (hts _ mwX2_holderOf_1) (fun _ h9 => h9) rfl dX2_holderOf_1 ?_
  refine lv_iload_n hx hb dX2_holderOf_4 rfl (lv_at hl 1 rfl) ?_
  refine lv_bipush (v := Int32.ofInt (7 : Int)) hx hb dX2_holderOf_5 (by decide) ?_
  refine lv_imul hx hb dX2_holderOf_7 (z_ci (Int32.ofInt_mul x1 (7 : Int)) ?_)
  refine lv_iload_n hx hb dX2_holderOf_8 rfl (lv_at hl 2 rfl) ?_
  refine lv_iadd hx hb dX2_holderOf_9 (z_ci (Int32.ofInt_add (x1 * (7 : Int)) x2) ?_)
  have hc := ck_c hf
  replace hf := ck_r hf
  refine va_iald hx hb hK hP 1 1 rfl rfl (z_ix_in hc) dX2_holderOf_10 (z_ci (z_ald v_p0_holders hc) ?_)
  clear hc
  obtain rfl := ou1 hf
  rw [hQ]
  exact W.iret hx hb hr (fun t ht hW => ⟨⟨_, (), rfl, rfl, by rw [ht]; exact hP, va_K.moved hW.alike hK, hD⟩, hS.F ht⟩) hS.2.2 dX2_holderOf_11

noncomputable def B_X1_goOn_85 (i_p0_kitchen_rules_seats : Int) (J10 : (Int → Int) → Option ((Int → Int) × (Int → Int) × (Int → Int) × (Int → Int))) (z3 : Int) (v_p0_kitchen_places : (Int → Int)) (z2 : Int) (z4 : Int) (w6 : (Int → Int)) (again85 : Int → (Int → Int) → Option ((Int → Int) × (Int → Int) × (Int → Int) × (Int → Int))) (z15 : Int) (w16 : (Int → Int)) : Option ((Int → Int) × (Int → Int) × (Int → Int) × (Int → Int)) := (ck (z_r32 z15) (ck (z_r32 i_p0_kitchen_rules_seats) (if i_p0_kitchen_rules_seats ≤ z15 then (J10 w16) else (ck (z_ix (z3 + z15) 35) (bd1 (f_X2_placeOf v_p0_kitchen_places z2 z15) (fun (z20 : Int) => (ck (z_ix (z4 + z20) 35) (ck (z_ix (z4 + z15) 35) (bnd (z_up w16 (z4 + z15) ((w16 (z3 + z15)) + (w6 (z4 + z20)))) (fun (w21 : (Int → Int)) => (bnd (z15 + (1 : Int)) (fun (z22 : Int) => (again85 z22 w21)))))))))))))
noncomputable def B_X1_goOn_30 (i_p0_kitchen_rules_seats : Int) (J7 : (Int → Int) → Option ((Int → Int) × (Int → Int) × (Int → Int) × (Int → Int))) (v_p0_kitchen_rules_after : (Int → Int)) (z1 : Int) (z3 : Int) (z4 : Int) (again30 : Int → (Int → Int) → Option ((Int → Int) × (Int → Int) × (Int → Int) × (Int → Int))) (z23 : Int) (w24 : (Int → Int)) : Option ((Int → Int) × (Int → Int) × (Int → Int) × (Int → Int)) := (ck (z_r32 z23) (ck (z_r32 i_p0_kitchen_rules_seats) (if i_p0_kitchen_rules_seats ≤ z23 then (J7 w24) else (bd1 (f_X6_placeAfter v_p0_kitchen_rules_after z1 z23) (fun (z28 : Int) => (ck (z_ix (z3 + z23) 35) (ck (z_ix (z4 + z28) 35) (bnd (z_up w24 (z4 + z28) (w24 (z3 + z23))) (fun (w29 : (Int → Int)) => (bnd (z23 + (1 : Int)) (fun (z30 : Int) => (again30 z30 w29))))))))))))
noncomputable def f_X1_goOn (i_p0_kitchen_rules_seats : Int) (v_p0_kitchen_rules_after : (Int → Int)) (v_p0_kitchen_places : (Int → Int)) (v_p0_kitchen_holders : (Int → Int)) (v_p0_pots : (Int → Int)) (v_p0_sums : (Int → Int)) (v_p0_kings : (Int → Int)) (v_p0_bones : (Int → Int)) (v_p0_row : (Int → Int)) (x1 : Int) : Option ((Int → Int) × (Int → Int) × (Int → Int) × (Int → Int)) := (ck (z_ix x1 4) (bnd (v_p0_row x1) (fun (z1 : Int) => (ck (z_ix x1 5) (bnd (v_p0_kings x1) (fun (z2 : Int) => (bnd (x1 * (7 : Int)) (fun (z3 : Int) => (bnd (z3 + (7 : Int)) (fun (z4 : Int) => (bnd (0 : Int) (fun (z5 : Int) => (jn (fun (w6 : (Int → Int)) => (bnd (0 : Int) (fun (z8 : Int) => (jn (fun (w9 : (Int → Int)) => (ck (z_ix x1 5) (bd1 (f_X6_placeAfter v_p0_kitchen_rules_after z1 (v_p0_bones x1)) (fun (z11 : Int) => (ck (z_ix (x1 + (1 : Int)) 5) (bnd (z_up v_p0_bones (x1 + (1 : Int)) z11) (fun (w12 : (Int → Int)) => (ck (z_ix (x1 + (1 : Int)) 5) (bd1 (f_X2_holderOf v_p0_kitchen_holders z2 (w12 (x1 + (1 : Int)))) (fun (z13 : Int) => (ck (z_ix (x1 + (1 : Int)) 5) (bnd (z_up v_p0_kings (x1 + (1 : Int)) z13) (fun (w14 : (Int → Int)) => (some (w6, w9, w14, w12))))))))))))))) (fun (J10 : (Int → Int) → Option ((Int → Int) × (Int → Int) × (Int → Int) × (Int → Int))) => (lq2 (B_X1_goOn_85 i_p0_kitchen_rules_seats J10 z3 v_p0_kitchen_places z2 z4 w6) 1000 z8 v_p0_sums)))))) (fun (J7 : (Int → Int) → Option ((Int → Int) × (Int → Int) × (Int → Int) × (Int → Int))) => (lq2 (B_X1_goOn_30 i_p0_kitchen_rules_seats J7 v_p0_kitchen_rules_after z1 z3 z4) 1000 z5 v_p0_pots)))))))))))))))
abbrev rm_X1_goOn : Room := { frames := 1, cells := 0, slots := 0, locals := 22 }
theorem inX1_goOn_X1 : ∀ w ∈ wsX10, w ∈ wsX1_goOn := by first | exact fun w h => List.mem_cons_of_mem _ (List.mem_append_left _ (List.mem_append_left _ (List.mem_append_right _ h))) | decide +kernel
theorem mwX1_goOn_1 : Cond.fieldLink RX1 24 "LadleKings$FairDays" "row" "[I" ∈ wsX1_goOn := by first | exact List.mem_of_getElem? (i := 1) rfl | decide +kernel
theorem mwX1_goOn_2 : Cond.fieldLink RX1 18 "LadleKings$FairDays" "kings" "[I" ∈ wsX1_goOn := by first | exact List.mem_of_getElem? (i := 2) rfl | decide +kernel
theorem mwX1_goOn_3 : Cond.fieldLink RX1 21 "LadleKings$FairDays" "bones" "[I" ∈ wsX1_goOn := by first | exact List.mem_of_getElem? (i := 8) rfl | decide +kernel
theorem mwX1_goOn_4 : Cond.fieldLink RX1 37 "LadleKings$FairDays" "kitchen" "LLadleKings$Kitchen;" ∈ wsX1_goOn := by first | exact List.mem_of_getElem? (i := 3) rfl | decide +kernel
theorem inX1_goOn_X2 : ∀ w ∈ wsX20, w ∈ wsX1_goOn := by first | exact fun w h => List.mem_cons_of_mem _ (List.mem_append_left _ (List.mem_append_right _ h)) | decide +kernel
theorem mwX1_goOn_6 : Cond.fieldLink RX1 75 "LadleKings$Kitchen" "rules" "LLadleKings$Rules;" ∈ wsX1_goOn := by first | exact List.mem_of_getElem? (i := 4) rfl | decide +kernel
theorem hdV_yX6_placeAfter_RX6 : yX6_placeAfter.cls = RX6 ∧ yX6_placeAfter.cls ≠ "java/lang/invoke/MethodHandle" ∧ yX6_placeAfter.cls ≠ "java/lang/invoke/VarHandle" ∧ (parseMethodDescriptor yX6_placeAfter.desc).map (fun d => d.parameters.length) = some 2 := by decide +kernel
theorem hdV_yX2_holderOf_RX2 : yX2_holderOf.cls = RX2 ∧ yX2_holderOf.cls ≠ "java/lang/invoke/MethodHandle" ∧ yX2_holderOf.cls ≠ "java/lang/invoke/VarHandle" ∧ (parseMethodDescriptor yX2_holderOf.desc).map (fun d => d.parameters.length) = some 2 := by decide +kernel
theorem inX1_goOn_X6 : ∀ w ∈ wsX60, w ∈ wsX1_goOn := by first | exact fun w h => List.mem_cons_of_mem _ (List.mem_append_right _ h) | decide +kernel
theorem mwX1_goOn_10 : Cond.fieldLink RX1 79 "LadleKings$Rules" "seats" "I" ∈ wsX1_goOn := by first | exact List.mem_of_getElem? (i := 5) rfl | decide +kernel
theorem mwX1_goOn_11 : Cond.fieldLink RX1 15 "LadleKings$FairDays" "sums" "[I" ∈ wsX1_goOn := by first | exact List.mem_of_getElem? (i := 7) rfl | decide +kernel
theorem mwX1_goOn_12 : Cond.fieldLink RX1 11 "LadleKings$FairDays" "pots" "[I" ∈ wsX1_goOn := by first | exact List.mem_of_getElem? (i := 6) rfl | decide +kernel
set_option maxHeartbeats 8000000 in
set_option maxRecDepth 100000 in
theorem c_X1_goOn (l : Launch) (D : va_G) (G : Nat → ClassId) (sz : Nat) (a_p0 : Nat) (a_p0_kitchen : Nat) (a_p0_pots : Nat) (a_p0_sums : Nat) (a_p0_kings : Nat) (a_p0_bones : Nat) (a_p0_row : Nat) (a_p0_bestRow : Nat) (a_p0_kitchen_rules : Nat) (a_p0_kitchen_state : Nat) (a_p0_kitchen_places : Nat) (a_p0_kitchen_holders : Nat) (a_p0_kitchen_stirred : Nat) (a_p0_kitchen_rules_need : Nat) (a_p0_kitchen_rules_kind : Nat) (a_p0_kitchen_rules_first : Nat) (a_p0_kitchen_rules_second : Nat) (a_p0_kitchen_rules_after : Nat) (i_p0_days : Int) (i_p0_least : Int) (i_p0_kitchen_rules_seats : Int) (i_p0_kitchen_rules_stirs : Int) (v_p0_kitchen_rules_after : (Int → Int)) (v_p0_kitchen_places : (Int → Int)) (v_p0_kitchen_holders : (Int → Int)) (v_p0_pots : (Int → Int)) (v_p0_sums : (Int → Int)) (v_p0_kings : (Int → Int)) (v_p0_bones : (Int → Int)) (v_p0_row : (Int → Int)) (x1 : Int) (o_v_p0_pots : (Int → Int)) (o_v_p0_sums : (Int → Int)) (o_v_p0_kings : (Int → Int)) (o_v_p0_bones : (Int → Int)) (hf : f_X1_goOn i_p0_kitchen_rules_seats v_p0_kitchen_rules_after v_p0_kitchen_places v_p0_kitchen_holders v_p0_pots v_p0_sums v_p0_kings v_p0_bones v_p0_row x1 = some (o_v_p0_pots, o_v_p0_sums, o_v_p0_kings, o_v_p0_bones)) : Met l yX1_goOn wsX1_goOn rm_X1_goOn (pcG D G [.ref a_p0, .int (Int32.ofInt x1)] sz [(a_p0, .inr (1, [.ref a_p0_kitchen, .ref a_p0_pots, .ref a_p0_sums, .ref a_p0_kings, .ref a_p0_bones, .ref a_p0_row, .ref a_p0_bestRow, .int (Int32.ofInt i_p0_days), .int (Int32.ofInt i_p0_least)])), (a_p0_kitchen, .inr (2, [.ref a_p0_kitchen_rules, .ref a_p0_kitchen_state, .ref a_p0_kitchen_places, .ref a_p0_kitchen_holders, .ref a_p0_kitchen_stirred])), (a_p0_kitchen_rules, .inr (6, [.int (Int32.ofInt i_p0_kitchen_rules_seats), .int (Int32.ofInt i_p0_kitchen_rules_stirs), .ref a_p0_kitchen_rules_need, .ref a_p0_kitchen_rules_kind, .ref a_p0_kitchen_rules_first, .ref a_p0_kitchen_rules_second, .ref a_p0_kitchen_rules_after])), (a_p0_kitchen_rules_after, .inl (G 1, 35, .inl (zA v_p0_kitchen_rules_after))), (a_p0_kitchen_places, .inl (G 1, 49, .inl (zA v_p0_kitchen_places))), (a_p0_kitchen_holders, .inl (G 1, 49, .inl (zA v_p0_kitchen_holders))), (a_p0_pots, .inl (G 1, 35, .inl (zA v_p0_pots))), (a_p0_sums, .inl (G 1, 35, .inl (zA v_p0_sums))), (a_p0_kings, .inl (G 1, 5, .inl (zA v_p0_kings))), (a_p0_bones, .inl (G 1, 5, .inl (zA v_p0_bones))), (a_p0_row, .inl (G 1, 4, .inl (zA v_p0_row)))]) (qcV D G [(a_p0, .inr (1, [.ref a_p0_kitchen, .ref a_p0_pots, .ref a_p0_sums, .ref a_p0_kings, .ref a_p0_bones, .ref a_p0_row, .ref a_p0_bestRow, .int (Int32.ofInt i_p0_days), .int (Int32.ofInt i_p0_least)])), (a_p0_kitchen, .inr (2, [.ref a_p0_kitchen_rules, .ref a_p0_kitchen_state, .ref a_p0_kitchen_places, .ref a_p0_kitchen_holders, .ref a_p0_kitchen_stirred])), (a_p0_kitchen_rules, .inr (6, [.int (Int32.ofInt i_p0_kitchen_rules_seats), .int (Int32.ofInt i_p0_kitchen_rules_stirs), .ref a_p0_kitchen_rules_need, .ref a_p0_kitchen_rules_kind, .ref a_p0_kitchen_rules_first, .ref a_p0_kitchen_rules_second, .ref a_p0_kitchen_rules_after])), (a_p0_kitchen_rules_after, .inl (G 1, 35, .inl (zA v_p0_kitchen_rules_after))), (a_p0_kitchen_places, .inl (G 1, 49, .inl (zA v_p0_kitchen_places))), (a_p0_kitchen_holders, .inl (G 1, 49, .inl (zA v_p0_kitchen_holders))), (a_p0_pots, .inl (G 1, 35, .inl (zA o_v_p0_pots))), (a_p0_sums, .inl (G 1, 35, .inl (zA o_v_p0_sums))), (a_p0_kings, .inl (G 1, 5, .inl (zA o_v_p0_kings))), (a_p0_bones, .inl (G 1, 5, .inl (zA o_v_p0_bones))), (a_p0_row, .inl (G 1, 4, .inl (zA v_p0_row)))] (va_A [(a_p0, .inr (1, [.ref a_p0_kitchen, .ref a_p0_pots, .ref a_p0_sums, .ref a_p0_kings, .ref a_p0_bones, .ref a_p0_row, .ref a_p0_bestRow, .int (Int32.ofInt i_p0_days), .int (Int32.ofInt i_p0_least)])), (a_p0_kitchen, .inr (2, [.ref a_p0_kitchen_rules, .ref a_p0_kitchen_state, .ref a_p0_kitchen_places, .ref a_p0_kitchen_holders, .ref a_p0_kitchen_stirred])), (a_p0_kitchen_rules, .inr (6, [.int (Int32.ofInt i_p0_kitchen_rules_seats), .int (Int32.ofInt i_p0_kitchen_rules_stirs), .ref a_p0_kitchen_rules_need, .ref a_p0_kitchen_rules_kind, .ref a_p0_kitchen_rules_first, .ref a_p0_kitchen_rules_second, .ref a_p0_kitchen_rules_after])), (a_p0_kitchen_rules_after, .inl (G 1, 35, .inl (zA v_p0_kitchen_rules_after))), (a_p0_kitchen_places, .inl (G 1, 49, .inl (zA v_p0_kitchen_places))), (a_p0_kitchen_holders, .inl (G 1, 49, .inl (zA v_p0_kitchen_holders))), (a_p0_pots, .inl (G 1, 35, .inl (zA v_p0_pots))), (a_p0_sums, .inl (G 1, 35, .inl (zA v_p0_sums))), (a_p0_kings, .inl (G 1, 5, .inl (zA v_p0_kings))), (a_p0_bones, .inl (G 1, 5, .inl (zA v_p0_bones))), (a_p0_row, .inl (G 1, 4, .inl (zA v_p0_row)))] sz)) 0 0 (va_A [(a_p0, .inr (1, [.ref a_p0_kitchen, .ref a_p0_pots, .ref a_p0_sums, .ref a_p0_kings, .ref a_p0_bones, .ref a_p0_row, .ref a_p0_bestRow, .int (Int32.ofInt i_p0_days), .int (Int32.ofInt i_p0_least)])), (a_p0_kitchen, .inr (2, [.ref a_p0_kitchen_rules, .ref a_p0_kitchen_state, .ref a_p0_kitchen_places, .ref a_p0_kitchen_holders, .ref a_p0_kitchen_stirred])), (a_p0_kitchen_rules, .inr (6, [.int (Int32.ofInt i_p0_kitchen_rules_seats), .int (Int32.ofInt i_p0_kitchen_rules_stirs), .ref a_p0_kitchen_rules_need, .ref a_p0_kitchen_rules_kind, .ref a_p0_kitchen_rules_first, .ref a_p0_kitchen_rules_second, .ref a_p0_kitchen_rules_after])), (a_p0_kitchen_rules_after, .inl (G 1, 35, .inl (zA v_p0_kitchen_rules_after))), (a_p0_kitchen_places, .inl (G 1, 49, .inl (zA v_p0_kitchen_places))), (a_p0_kitchen_holders, .inl (G 1, 49, .inl (zA v_p0_kitchen_holders))), (a_p0_pots, .inl (G 1, 35, .inl (zA v_p0_pots))), (a_p0_sums, .inl (G 1, 35, .inl (zA v_p0_sums))), (a_p0_kings, .inl (G 1, 5, .inl (zA v_p0_kings))), (a_p0_bones, .inl (G 1, 5, .inl (zA v_p0_bones))), (a_p0_row, .inl (G 1, 4, .inl (zA v_p0_row)))] sz) := by
  refine Met.ofW (cc := cX1_goOn) (maxL := 7) (ret := none) (by decide) rfl ?_
  intro p e s m args below meth c s₁ B hml hv
  obtain ⟨rfl, hsz, hP, hK, hD0⟩ := hv
  have hx := B.exec
  have hb := B.bytes
  have hr := B.returns
  have hts := atoms_spec (ws := wsX1_goOn) B.pre
  have hown : s.vm.findClass RX1 = some m.cls := findClass_of_methodNamed B.named
  have hlocks := B.notSynchronized
  subst hsz
  have hD := hD0.self (sz := s.heap.size)
  generalize hAe : va_A [(a_p0, .inr (1, [.ref a_p0_kitchen, .ref a_p0_pots, .ref a_p0_sums, .ref a_p0_kings, .ref a_p0_bones, .ref a_p0_row, .ref a_p0_bestRow, .int (Int32.ofInt i_p0_days), .int (Int32.ofInt i_p0_least)])), (a_p0_kitchen, .inr (2, [.ref a_p0_kitchen_rules, .ref a_p0_kitchen_state, .ref a_p0_kitchen_places, .ref a_p0_kitchen_holders, .ref a_p0_kitchen_stirred])), (a_p0_kitchen_rules, .inr (6, [.int (Int32.ofInt i_p0_kitchen_rules_seats), .int (Int32.ofInt i_p0_kitchen_rules_stirs), .ref a_p0_kitchen_rules_need, .ref a_p0_kitchen_rules_kind, .ref a_p0_kitchen_rules_first, .ref a_p0_kitchen_rules_second, .ref a_p0_kitchen_rules_after])), (a_p0_kitchen_rules_after, .inl (G 1, 35, .inl (zA v_p0_kitchen_rules_after))), (a_p0_kitchen_places, .inl (G 1, 49, .inl (zA v_p0_kitchen_places))), (a_p0_kitchen_holders, .inl (G 1, 49, .inl (zA v_p0_kitchen_holders))), (a_p0_pots, .inl (G 1, 35, .inl (zA v_p0_pots))), (a_p0_sums, .inl (G 1, 35, .inl (zA v_p0_sums))), (a_p0_kings, .inl (G 1, 5, .inl (zA v_p0_kings))), (a_p0_bones, .inl (G 1, 5, .inl (zA v_p0_bones))), (a_p0_row, .inl (G 1, 4, .inl (zA v_p0_row)))] s.heap.size = A at hD ⊢
  have hA : ∀ q : Nat, s.heap.size ≤ q → A q := fun q h => by rw [← hAe]; exact Or.inr h
  clear hAe hD0
  have hS : va_S A s.heap s.heap [] := va_S.rf
  have hl := lv_entry ([.ref a_p0, .int (Int32.ofInt x1)]) (n := 7) (Nat.le_of_ble_eq_true rfl)
  rw [lg_entry_eq]
  generalize (lg_sl ([.ref a_p0, .int (Int32.ofInt x1)]) ++ List.replicate (7 - (lg_sl ([.ref a_p0, .int (Int32.ofInt x1)])).length) Slot.unset).toArray = ls at hl ⊢
  have hl : lv_has ls 7 [(0, .ref a_p0), (1, .int (Int32.ofInt x1))] := hl
  refine W_nameQ (fun Q hQ => ?_)
  obtain ⟨H, hH⟩ : ∃ H, H = s.heap := ⟨_, rfl⟩
  replace hS : va_S A s.heap H [] := by rw [hH]; exact hS
  replace hP : va_P D vwCl [(a_p0, .inr (1, [.ref a_p0_kitchen, .ref a_p0_pots, .ref a_p0_sums, .ref a_p0_kings, .ref a_p0_bones, .ref a_p0_row, .ref a_p0_bestRow, .int (Int32.ofInt i_p0_days), .int (Int32.ofInt i_p0_least)])), (a_p0_kitchen, .inr (2, [.ref a_p0_kitchen_rules, .ref a_p0_kitchen_state, .ref a_p0_kitchen_places, .ref a_p0_kitchen_holders, .ref a_p0_kitchen_stirred])), (a_p0_kitchen_rules, .inr (6, [.int (Int32.ofInt i_p0_kitchen_rules_seats), .int (Int32.ofInt i_p0_kitchen_rules_stirs), .ref a_p0_kitchen_rules_need, .ref a_p0_kitchen_rules_kind, .ref a_p0_kitchen_rules_first, .ref a_p0_kitchen_rules_second, .ref a_p0_kitchen_rules_after])), (a_p0_kitchen_rules_after, .inl (G 1, 35, .inl (zA v_p0_kitchen_rules_after))), (a_p0_kitchen_places, .inl (G 1, 49, .inl (zA v_p0_kitchen_places))), (a_p0_kitchen_holders, .inl (G 1, 49, .inl (zA v_p0_kitchen_holders))), (a_p0_pots, .inl (G 1, 35, .inl (zA v_p0_pots))), (a_p0_sums, .inl (G 1, 35, .inl (zA v_p0_sums))), (a_p0_kings, .inl (G 1, 5, .inl (zA v_p0_kings))), (a_p0_bones, .inl (G 1, 5, .inl (zA v_p0_bones))), (a_p0_row, .inl (G 1, 4, .inl (zA v_p0_row)))] H := by rw [hH]; exact hP
  rw [← hH]
  clear hH
  unfold f_X1_goOn at hf
  refine lv_aload_n hx hb dX1_goOn_0 rfl (lv_at hl 0 rfl) ?_
  refine va_get (D := D) (ci := 1) (v := .ref a_p0_row) (C := RX1) (T := TX1) (N := 9) hx hb hts inX1_goOn_X1 hown hK hP 0 rfl rfl 5 (by decide) (hts _ mwX1_goOn_1) (fun _ h9 => h9) rfl dX1_goOn_1 ?_
  refine lv_iload_n hx hb dX1_goOn_4 rfl (lv_at hl 1 rfl) ?_
  have hc := ck_c hf
  replace hf := ck_r hf
  refine va_iald hx hb hK hP 10 1 rfl rfl (z_ix_in hc) dX1_goOn_5 (z_ci (z_ald v_p0_row hc) ?_)
  clear hc
  refine z_topi (fun z1 ez => ?_)
  replace hf := bnd_s hf ez
  clear ez
  refine lv_istore_n (lv' := [(2, .int (Int32.ofInt z1)), (0, .ref a_p0), (1, .int (Int32.ofInt x1))]) hx hb dX1_goOn_6 rfl hl (by decide) rfl (fun ls hl => ?_)
  refine lv_aload_n hx hb dX1_goOn_7 rfl (lv_at hl 1 rfl) ?_
  refine va_get (D := D) (ci := 1) (v := .ref a_p0_kings) (C := RX1) (T := TX1) (N := 9) hx hb hts inX1_goOn_X1 hown hK hP 0 rfl rfl 3 (by decide) (hts _ mwX1_goOn_2) (fun _ h9 => h9) rfl dX1_goOn_8 ?_
  refine lv_iload_n hx hb dX1_goOn_11 rfl (lv_at hl 2 rfl) ?_
  have hc := ck_c hf
  replace hf := ck_r hf
  refine va_iald hx hb hK hP 8 1 rfl rfl (z_ix_in hc) dX1_goOn_12 (z_ci (z_ald v_p0_kings hc) ?_)
  clear hc
  refine z_topi (fun z2 ez => ?_)
  replace hf := bnd_s hf ez
  clear ez
  refine lv_istore_n (lv' := [(3, .int (Int32.ofInt z2)), (2, .int (Int32.ofInt z1)), (0, .ref a_p0), (1, .int (Int32.ofInt x1))]) hx hb dX1_goOn_13 rfl hl (by decide) rfl (fun ls hl => ?_)
  refine lv_iload_n hx hb dX1_goOn_14 rfl (lv_at hl 3 rfl) ?_
  refine lv_bipush (v := Int32.ofInt (7 : Int)) hx hb dX1_goOn_15 (by decide) ?_
  refine lv_imul hx hb dX1_goOn_17 (z_ci (Int32.ofInt_mul x1 (7 : Int)) ?_)
  refine z_topi (fun z3 ez => ?_)
  replace hf := bnd_s hf ez
  clear ez
  refine lv_istore (lv' := [(4, .int (Int32.ofInt z3)), (3, .int (Int32.ofInt z2)), (2, .int (Int32.ofInt z1)), (0, .ref a_p0), (1, .int (Int32.ofInt x1))]) hx hb dX1_goOn_18 hl (by decide) rfl (fun ls hl => ?_)
  refine lv_iload hx hb dX1_goOn_20 (lv_at hl 0 rfl) ?_
  refine lv_bipush (v := Int32.ofInt (7 : Int)) hx hb dX1_goOn_22 (by decide) ?_
  refine lv_iadd hx hb dX1_goOn_24 (z_ci (Int32.ofInt_add z3 (7 : Int)) ?_)
  refine z_topi (fun z4 ez => ?_)
  replace hf := bnd_s hf ez
  clear ez
  refine lv_istore (lv' := [(5, .int (Int32.ofInt z4)), (4, .int (Int32.ofInt z3)), (3, .int (Int32.ofInt z2)), (2, .int (Int32.ofInt z1)), (0, .ref a_p0), (1, .int (Int32.ofInt x1))]) hx hb dX1_goOn_25 hl (by decide) rfl (fun ls hl => ?_)
  refine lv_iconst (v := Int32.ofInt (0 : Int)) hx hb dX1_goOn_27 (by decide) ?_
  refine z_topi (fun z5 ez => ?_)
  replace hf := bnd_s hf ez
  clear ez
  refine lv_istore (lv' := [(6, .int (Int32.ofInt z5)), (5, .int (Int32.ofInt z4)), (4, .int (Int32.ofInt z3)), (3, .int (Int32.ofInt z2)), (2, .int (Int32.ofInt z1)), (0, .ref a_p0), (1, .int (Int32.ofInt x1))]) hx hb dX1_goOn_28 hl (by decide) rfl (fun ls hl => ?_)
  have hq := jn_i hf
  clear hf
  obtain ⟨J7, eJ7, hf⟩ := hq
  have hJ7 : ∀ (w6 : (Int → Int)) (ls : Array Slot) (H : Heap) (locs : List Loc), lv_has ls 7 [(5, .int (Int32.ofInt z4)), (4, .int (Int32.ofInt z3)), (3, .int (Int32.ofInt z2)), (2, .int (Int32.ofInt z1)), (0, .ref a_p0), (1, .int (Int32.ofInt x1))] → va_P D vwCl [(a_p0, .inr (1, [.ref a_p0_kitchen, .ref a_p0_pots, .ref a_p0_sums, .ref a_p0_kings, .ref a_p0_bones, .ref a_p0_row, .ref a_p0_bestRow, .int (Int32.ofInt i_p0_days), .int (Int32.ofInt i_p0_least)])), (a_p0_kitchen, .inr (2, [.ref a_p0_kitchen_rules, .ref a_p0_kitchen_state, .ref a_p0_kitchen_places, .ref a_p0_kitchen_holders, .ref a_p0_kitchen_stirred])), (a_p0_kitchen_rules, .inr (6, [.int (Int32.ofInt i_p0_kitchen_rules_seats), .int (Int32.ofInt i_p0_kitchen_rules_stirs), .ref a_p0_kitchen_rules_need, .ref a_p0_kitchen_rules_kind, .ref a_p0_kitchen_rules_first, .ref a_p0_kitchen_rules_second, .ref a_p0_kitchen_rules_after])), (a_p0_kitchen_rules_after, .inl (G 1, 35, .inl (zA v_p0_kitchen_rules_after))), (a_p0_kitchen_places, .inl (G 1, 49, .inl (zA v_p0_kitchen_places))), (a_p0_kitchen_holders, .inl (G 1, 49, .inl (zA v_p0_kitchen_holders))), (a_p0_pots, .inl (G 1, 35, .inl (zA w6))), (a_p0_sums, .inl (G 1, 35, .inl (zA v_p0_sums))), (a_p0_kings, .inl (G 1, 5, .inl (zA v_p0_kings))), (a_p0_bones, .inl (G 1, 5, .inl (zA v_p0_bones))), (a_p0_row, .inl (G 1, 4, .inl (zA v_p0_row)))] H → va_D A [(a_p0, .inr (1, [.ref a_p0_kitchen, .ref a_p0_pots, .ref a_p0_sums, .ref a_p0_kings, .ref a_p0_bones, .ref a_p0_row, .ref a_p0_bestRow, .int (Int32.ofInt i_p0_days), .int (Int32.ofInt i_p0_least)])), (a_p0_kitchen, .inr (2, [.ref a_p0_kitchen_rules, .ref a_p0_kitchen_state, .ref a_p0_kitchen_places, .ref a_p0_kitchen_holders, .ref a_p0_kitchen_stirred])), (a_p0_kitchen_rules, .inr (6, [.int (Int32.ofInt i_p0_kitchen_rules_seats), .int (Int32.ofInt i_p0_kitchen_rules_stirs), .ref a_p0_kitchen_rules_need, .ref a_p0_kitchen_rules_kind, .ref a_p0_kitchen_rules_first, .ref a_p0_kitchen_rules_second, .ref a_p0_kitchen_rules_after])), (a_p0_kitchen_rules_after, .inl (G 1, 35, .inl (zA v_p0_kitchen_rules_after))), (a_p0_kitchen_places, .inl (G 1, 49, .inl (zA v_p0_kitchen_places))), (a_p0_kitchen_holders, .inl (G 1, 49, .inl (zA v_p0_kitchen_holders))), (a_p0_pots, .inl (G 1, 35, .inl (zA w6))), (a_p0_sums, .inl (G 1, 35, .inl (zA v_p0_sums))), (a_p0_kings, .inl (G 1, 5, .inl (zA v_p0_kings))), (a_p0_bones, .inl (G 1, 5, .inl (zA v_p0_bones))), (a_p0_row, .inl (G 1, 4, .inl (zA v_p0_row)))] → va_S A s.heap H locs → J7 w6 = some (o_v_p0_pots, o_v_p0_sums, o_v_p0_kings, o_v_p0_bones) → W p l e rm_X1_goOn s m ([.ref a_p0, .int (Int32.ofInt x1)] : List Value).toArray below meth c H locs 0 0 Q (F0 m 82 ls []) := by
    clear hf hl hP hD hS
    intro w6 ls H locs hl hP hD hS hf
    replace hf := jn1_s eJ7 hf
    refine lv_iconst (v := Int32.ofInt (0 : Int)) hx hb dX1_goOn_82 (by decide) ?_
    refine z_topi (fun z8 ez => ?_)
    replace hf := bnd_s hf ez
    clear ez
    refine lv_istore (lv' := [(6, .int (Int32.ofInt z8)), (5, .int (Int32.ofInt z4)), (4, .int (Int32.ofInt z3)), (3, .int (Int32.ofInt z2)), (2, .int (Int32.ofInt z1)), (0, .ref a_p0), (1, .int (Int32.ofInt x1))]) hx hb dX1_goOn_83 hl (by decide) rfl (fun ls hl => ?_)
    have hq := jn_i hf
    clear hf
    obtain ⟨J10, eJ10, hf⟩ := hq
    have hJ10 : ∀ (w9 : (Int → Int)) (ls : Array Slot) (H : Heap) (locs : List Loc), lv_has ls 7 [(3, .int (Int32.ofInt z2)), (2, .int (Int32.ofInt z1)), (0, .ref a_p0), (1, .int (Int32.ofInt x1))] → va_P D vwCl [(a_p0, .inr (1, [.ref a_p0_kitchen, .ref a_p0_pots, .ref a_p0_sums, .ref a_p0_kings, .ref a_p0_bones, .ref a_p0_row, .ref a_p0_bestRow, .int (Int32.ofInt i_p0_days), .int (Int32.ofInt i_p0_least)])), (a_p0_kitchen, .inr (2, [.ref a_p0_kitchen_rules, .ref a_p0_kitchen_state, .ref a_p0_kitchen_places, .ref a_p0_kitchen_holders, .ref a_p0_kitchen_stirred])), (a_p0_kitchen_rules, .inr (6, [.int (Int32.ofInt i_p0_kitchen_rules_seats), .int (Int32.ofInt i_p0_kitchen_rules_stirs), .ref a_p0_kitchen_rules_need, .ref a_p0_kitchen_rules_kind, .ref a_p0_kitchen_rules_first, .ref a_p0_kitchen_rules_second, .ref a_p0_kitchen_rules_after])), (a_p0_kitchen_rules_after, .inl (G 1, 35, .inl (zA v_p0_kitchen_rules_after))), (a_p0_kitchen_places, .inl (G 1, 49, .inl (zA v_p0_kitchen_places))), (a_p0_kitchen_holders, .inl (G 1, 49, .inl (zA v_p0_kitchen_holders))), (a_p0_pots, .inl (G 1, 35, .inl (zA w6))), (a_p0_sums, .inl (G 1, 35, .inl (zA w9))), (a_p0_kings, .inl (G 1, 5, .inl (zA v_p0_kings))), (a_p0_bones, .inl (G 1, 5, .inl (zA v_p0_bones))), (a_p0_row, .inl (G 1, 4, .inl (zA v_p0_row)))] H → va_D A [(a_p0, .inr (1, [.ref a_p0_kitchen, .ref a_p0_pots, .ref a_p0_sums, .ref a_p0_kings, .ref a_p0_bones, .ref a_p0_row, .ref a_p0_bestRow, .int (Int32.ofInt i_p0_days), .int (Int32.ofInt i_p0_least)])), (a_p0_kitchen, .inr (2, [.ref a_p0_kitchen_rules, .ref a_p0_kitchen_state, .ref a_p0_kitchen_places, .ref a_p0_kitchen_holders, .ref a_p0_kitchen_stirred])), (a_p0_kitchen_rules, .inr (6, [.int (Int32.ofInt i_p0_kitchen_rules_seats), .int (Int32.ofInt i_p0_kitchen_rules_stirs), .ref a_p0_kitchen_rules_need, .ref a_p0_kitchen_rules_kind, .ref a_p0_kitchen_rules_first, .ref a_p0_kitchen_rules_second, .ref a_p0_kitchen_rules_after])), (a_p0_kitchen_rules_after, .inl (G 1, 35, .inl (zA v_p0_kitchen_rules_after))), (a_p0_kitchen_places, .inl (G 1, 49, .inl (zA v_p0_kitchen_places))), (a_p0_kitchen_holders, .inl (G 1, 49, .inl (zA v_p0_kitchen_holders))), (a_p0_pots, .inl (G 1, 35, .inl (zA w6))), (a_p0_sums, .inl (G 1, 35, .inl (zA w9))), (a_p0_kings, .inl (G 1, 5, .inl (zA v_p0_kings))), (a_p0_bones, .inl (G 1, 5, .inl (zA v_p0_bones))), (a_p0_row, .inl (G 1, 4, .inl (zA v_p0_row)))] → va_S A s.heap H locs → J10 w9 = some (o_v_p0_pots, o_v_p0_sums, o_v_p0_kings, o_v_p0_bones) → W p l e rm_X1_goOn s m ([.ref a_p0, .int (Int32.ofInt x1)] : List Value).toArray below meth c H locs 0 0 Q (F0 m 145 ls []) := by
      clear hf hl hP hD hS
      intro w9 ls H locs hl hP hD hS hf
      replace hf := jn1_s eJ10 hf
      refine lv_aload_n hx hb dX1_goOn_145 rfl (lv_at hl 2 rfl) ?_
      refine va_get (D := D) (ci := 1) (v := .ref a_p0_bones) (C := RX1) (T := TX1) (N := 9) hx hb hts inX1_goOn_X1 hown hK hP 0 rfl rfl 4 (by decide) (hts _ mwX1_goOn_3) (fun _ h9 => h9) rfl dX1_goOn_146 ?_
      refine lv_iload_n hx hb dX1_goOn_149 rfl (lv_at hl 3 rfl) ?_
      refine lv_iconst (v := Int32.ofInt (1 : Int)) hx hb dX1_goOn_150 (by decide) ?_
      refine lv_iadd hx hb dX1_goOn_151 (z_ci (Int32.ofInt_add x1 (1 : Int)) ?_)
      refine lv_aload_n hx hb dX1_goOn_152 rfl (lv_at hl 2 rfl) ?_
      refine va_get (D := D) (ci := 1) (v := .ref a_p0_kitchen) (C := RX1) (T := TX1) (N := 9) hx hb hts inX1_goOn_X1 hown hK hP 0 rfl rfl 0 (by decide) (hts _ mwX1_goOn_4) (fun _ h9 => h9) rfl dX1_goOn_153 ?_
      refine va_get (D := D) (ci := 2) (v := .ref a_p0_kitchen_rules) (C := RX2) (T := TX2) (N := 5) hx hb hts inX1_goOn_X2 hown hK hP 1 rfl rfl 0 (by decide) (hts _ mwX1_goOn_6) (fun _ h9 => h9) rfl dX1_goOn_156 ?_
      refine lv_iload_n hx hb dX1_goOn_159 rfl (lv_at hl 1 rfl) ?_
      refine lv_aload_n hx hb dX1_goOn_160 rfl (lv_at hl 2 rfl) ?_
      refine va_get (D := D) (ci := 1) (v := .ref a_p0_bones) (C := RX1) (T := TX1) (N := 9) hx hb hts inX1_goOn_X1 hown hK hP 0 rfl rfl 4 (by decide) (hts _ mwX1_goOn_3) (fun _ h9 => h9) rfl dX1_goOn_161 ?_
      refine lv_iload_n hx hb dX1_goOn_164 rfl (lv_at hl 3 rfl) ?_
      have hc := ck_c hf
      replace hf := ck_r hf
      refine va_iald hx hb hK hP 9 1 rfl rfl (z_ix_in hc) dX1_goOn_165 (z_ci (z_ald v_p0_bones hc) ?_)
      clear hc
      have hq := bd1_s hf
      clear hf
      obtain ⟨z11, hcall, hf⟩ := hq
      refine gnI (va_runV (As := [.int (Int32.ofInt z1), .int (Int32.ofInt (v_p0_bones x1))]) (rest := [.int (Int32.ofInt (x1 + (1 : Int))), .ref a_p0_bones]) ⟨hx, hb, hml, hown, hts⟩ (c_X6_placeAfter (l := l) (D := D) (G := G) (sz := H.size) (a_p0 := a_p0_kitchen_rules) (a_p0_need := a_p0_kitchen_rules_need) (a_p0_kind := a_p0_kitchen_rules_kind) (a_p0_first := a_p0_kitchen_rules_first) (a_p0_second := a_p0_kitchen_rules_second) (a_p0_after := a_p0_kitchen_rules_after) (i_p0_seats := i_p0_kitchen_rules_seats) (i_p0_stirs := i_p0_kitchen_rules_stirs) (v_p0_after := v_p0_kitchen_rules_after) (x1 := z1) (x2 := (v_p0_bones x1)) (r := z11) (hf := hcall)) (cwV 2 hts gX1_goOn_X6_placeAfter rfl rfl rfl hdV_yX6_placeAfter_RX6 ⟨Nat.le_of_ble_eq_true rfl, Nat.le_of_ble_eq_true rfl⟩) (preG_V (ci := 6) (q := (RX6, TX6, 7)) (hP.sub [2, 3] rfl) (hD.sub [2, 3] rfl rfl) hK rfl rfl) rfl rfl hl.1 rfl (lv_room (Nat.le_of_ble_eq_true rfl)) dX1_goOn_166 ⟨Nat.le_of_ble_eq_true rfl, Nat.le_of_ble_eq_true rfl⟩) hP hD hS hA [2, 3] rfl (fun H locs hP hD hS => ?_)
      clear hcall
      have hc := ck_c hf
      replace hf := ck_r hf
      refine zs_iast (wf := fun w12 => [(a_p0, .inr (1, [.ref a_p0_kitchen, .ref a_p0_pots, .ref a_p0_sums, .ref a_p0_kings, .ref a_p0_bones, .ref a_p0_row, .ref a_p0_bestRow, .int (Int32.ofInt i_p0_days), .int (Int32.ofInt i_p0_least)])), (a_p0_kitchen, .inr (2, [.ref a_p0_kitchen_rules, .ref a_p0_kitchen_state, .ref a_p0_kitchen_places, .ref a_p0_kitchen_holders, .ref a_p0_kitchen_stirred])), (a_p0_kitchen_rules, .inr (6, [.int (Int32.ofInt i_p0_kitchen_rules_seats), .int (Int32.ofInt i_p0_kitchen_rules_stirs), .ref a_p0_kitchen_rules_need, .ref a_p0_kitchen_rules_kind, .ref a_p0_kitchen_rules_first, .ref a_p0_kitchen_rules_second, .ref a_p0_kitchen_rules_after])), (a_p0_kitchen_rules_after, .inl (G 1, 35, .inl (zA v_p0_kitchen_rules_after))), (a_p0_kitchen_places, .inl (G 1, 49, .inl (zA v_p0_kitchen_places))), (a_p0_kitchen_holders, .inl (G 1, 49, .inl (zA v_p0_kitchen_holders))), (a_p0_pots, .inl (G 1, 35, .inl (zA w6))), (a_p0_sums, .inl (G 1, 35, .inl (zA w9))), (a_p0_kings, .inl (G 1, 5, .inl (zA v_p0_kings))), (a_p0_bones, .inl (G 1, 5, .inl (zA w12))), (a_p0_row, .inl (G 1, 4, .inl (zA v_p0_row)))]) hx hb hK hP hD hS 9 1 rfl rfl hc dX1_goOn_169 (fun _ => rfl) (fun w12 ez H locs hP hD hS => ?_)
      replace hf := bnd_s hf ez
      clear ez hc
      refine lv_aload_n hx hb dX1_goOn_170 rfl (lv_at hl 2 rfl) ?_
      refine va_get (D := D) (ci := 1) (v := .ref a_p0_kings) (C := RX1) (T := TX1) (N := 9) hx hb hts inX1_goOn_X1 hown hK hP 0 rfl rfl 3 (by decide) (hts _ mwX1_goOn_2) (fun _ h9 => h9) rfl dX1_goOn_171 ?_
      refine lv_iload_n hx hb dX1_goOn_174 rfl (lv_at hl 3 rfl) ?_
      refine lv_iconst (v := Int32.ofInt (1 : Int)) hx hb dX1_goOn_175 (by decide) ?_
      refine lv_iadd hx hb dX1_goOn_176 (z_ci (Int32.ofInt_add x1 (1 : Int)) ?_)
      refine lv_aload_n hx hb dX1_goOn_177 rfl (lv_at hl 2 rfl) ?_
      refine va_get (D := D) (ci := 1) (v := .ref a_p0_kitchen) (C := RX1) (T := TX1) (N := 9) hx hb hts inX1_goOn_X1 hown hK hP 0 rfl rfl 0 (by decide) (hts _ mwX1_goOn_4) (fun _ h9 => h9) rfl dX1_goOn_178 ?_
      refine lv_iload_n hx hb dX1_goOn_181 rfl (lv_at hl 0 rfl) ?_
      refine lv_aload_n hx hb dX1_goOn_182 rfl (lv_at hl 2 rfl) ?_
      refine va_get (D := D) (ci := 1) (v := .ref a_p0_bones) (C := RX1) (T := TX1) (N := 9) hx hb hts inX1_goOn_X1 hown hK hP 0 rfl rfl 4 (by decide) (hts _ mwX1_goOn_3) (fun _ h9 => h9) rfl dX1_goOn_183 ?_
      refine lv_iload_n hx hb dX1_goOn_186 rfl (lv_at hl 3 rfl) ?_
      refine lv_iconst (v := Int32.ofInt (1 : Int)) hx hb dX1_goOn_187 (by decide) ?_
      refine lv_iadd hx hb dX1_goOn_188 (z_ci (Int32.ofInt_add x1 (1 : Int)) ?_)
      have hc := ck_c hf
      replace hf := ck_r hf
      refine va_iald hx hb hK hP 9 1 rfl rfl (z_ix_in hc) dX1_goOn_189 (z_ci (z_ald w12 hc) ?_)
      clear hc
      have hq := bd1_s hf
      clear hf
      obtain ⟨z13, hcall, hf⟩ := hq
      refine gnI (va_runV (As := [.int (Int32.ofInt z2), .int (Int32.ofInt (w12 (x1 + (1 : Int))))]) (rest := [.int (Int32.ofInt (x1 + (1 : Int))), .ref a_p0_kings]) ⟨hx, hb, hml, hown, hts⟩ (c_X2_holderOf (l := l) (D := D) (G := G) (sz := H.size) (a_p0 := a_p0_kitchen) (a_p0_rules := a_p0_kitchen_rules) (a_p0_state := a_p0_kitchen_state) (a_p0_places := a_p0_kitchen_places) (a_p0_holders := a_p0_kitchen_holders) (a_p0_stirred := a_p0_kitchen_stirred) (v_p0_holders := v_p0_kitchen_holders) (x1 := z2) (x2 := (w12 (x1 + (1 : Int)))) (r := z13) (hf := hcall)) (cwV 2 hts gX1_goOn_X2_holderOf rfl rfl rfl hdV_yX2_holderOf_RX2 ⟨Nat.le_of_ble_eq_true rfl, Nat.le_of_ble_eq_true rfl⟩) (preG_V (ci := 2) (q := (RX2, TX2, 5)) (hP.sub [1, 5] rfl) (hD.sub [1, 5] rfl rfl) hK rfl rfl) rfl rfl hl.1 rfl (lv_room (Nat.le_of_ble_eq_true rfl)) dX1_goOn_190 ⟨Nat.le_of_ble_eq_true rfl, Nat.le_of_ble_eq_true rfl⟩) hP hD hS hA [1, 5] rfl (fun H locs hP hD hS => ?_)
      clear hcall
      have hc := ck_c hf
      replace hf := ck_r hf
      refine zs_iast (wf := fun w14 => [(a_p0, .inr (1, [.ref a_p0_kitchen, .ref a_p0_pots, .ref a_p0_sums, .ref a_p0_kings, .ref a_p0_bones, .ref a_p0_row, .ref a_p0_bestRow, .int (Int32.ofInt i_p0_days), .int (Int32.ofInt i_p0_least)])), (a_p0_kitchen, .inr (2, [.ref a_p0_kitchen_rules, .ref a_p0_kitchen_state, .ref a_p0_kitchen_places, .ref a_p0_kitchen_holders, .ref a_p0_kitchen_stirred])), (a_p0_kitchen_rules, .inr (6, [.int (Int32.ofInt i_p0_kitchen_rules_seats), .int (Int32.ofInt i_p0_kitchen_rules_stirs), .ref a_p0_kitchen_rules_need, .ref a_p0_kitchen_rules_kind, .ref a_p0_kitchen_rules_first, .ref a_p0_kitchen_rules_second, .ref a_p0_kitchen_rules_after])), (a_p0_kitchen_rules_after, .inl (G 1, 35, .inl (zA v_p0_kitchen_rules_after))), (a_p0_kitchen_places, .inl (G 1, 49, .inl (zA v_p0_kitchen_places))), (a_p0_kitchen_holders, .inl (G 1, 49, .inl (zA v_p0_kitchen_holders))), (a_p0_pots, .inl (G 1, 35, .inl (zA w6))), (a_p0_sums, .inl (G 1, 35, .inl (zA w9))), (a_p0_kings, .inl (G 1, 5, .inl (zA w14))), (a_p0_bones, .inl (G 1, 5, .inl (zA w12))), (a_p0_row, .inl (G 1, 4, .inl (zA v_p0_row)))]) hx hb hK hP hD hS 8 1 rfl rfl hc dX1_goOn_193 (fun _ => rfl) (fun w14 ez H locs hP hD hS => ?_)
      replace hf := bnd_s hf ez
      clear ez hc
      obtain ⟨rfl, rfl, rfl, rfl⟩ := ou4 hf
      rw [hQ]
      exact W.vret hx hb hr (fun t ht hW => ⟨⟨(), rfl, trivial, by rw [ht]; exact hP, va_K.moved hW.alike hK, hD⟩, hS.F ht⟩) hS.2.2 dX1_goOn_194
    have hq := lq2_i hf
    clear hf
    obtain ⟨B17, eB17, NB17, hf⟩ := hq
    have hB17 : ∀ (n : Nat) (z15 : Int) (w16 : (Int → Int)) (ls : Array Slot) (H : Heap) (locs : List Loc), lv_has ls 7 [(6, .int (Int32.ofInt z15)), (5, .int (Int32.ofInt z4)), (4, .int (Int32.ofInt z3)), (3, .int (Int32.ofInt z2)), (2, .int (Int32.ofInt z1)), (0, .ref a_p0), (1, .int (Int32.ofInt x1))] → va_P D vwCl [(a_p0, .inr (1, [.ref a_p0_kitchen, .ref a_p0_pots, .ref a_p0_sums, .ref a_p0_kings, .ref a_p0_bones, .ref a_p0_row, .ref a_p0_bestRow, .int (Int32.ofInt i_p0_days), .int (Int32.ofInt i_p0_least)])), (a_p0_kitchen, .inr (2, [.ref a_p0_kitchen_rules, .ref a_p0_kitchen_state, .ref a_p0_kitchen_places, .ref a_p0_kitchen_holders, .ref a_p0_kitchen_stirred])), (a_p0_kitchen_rules, .inr (6, [.int (Int32.ofInt i_p0_kitchen_rules_seats), .int (Int32.ofInt i_p0_kitchen_rules_stirs), .ref a_p0_kitchen_rules_need, .ref a_p0_kitchen_rules_kind, .ref a_p0_kitchen_rules_first, .ref a_p0_kitchen_rules_second, .ref a_p0_kitchen_rules_after])), (a_p0_kitchen_rules_after, .inl (G 1, 35, .inl (zA v_p0_kitchen_rules_after))), (a_p0_kitchen_places, .inl (G 1, 49, .inl (zA v_p0_kitchen_places))), (a_p0_kitchen_holders, .inl (G 1, 49, .inl (zA v_p0_kitchen_holders))), (a_p0_pots, .inl (G 1, 35, .inl (zA w6))), (a_p0_sums, .inl (G 1, 35, .inl (zA w16))), (a_p0_kings, .inl (G 1, 5, .inl (zA v_p0_kings))), (a_p0_bones, .inl (G 1, 5, .inl (zA v_p0_bones))), (a_p0_row, .inl (G 1, 4, .inl (zA v_p0_row)))] H → va_D A [(a_p0, .inr (1, [.ref a_p0_kitchen, .ref a_p0_pots, .ref a_p0_sums, .ref a_p0_kings, .ref a_p0_bones, .ref a_p0_row, .ref a_p0_bestRow, .int (Int32.ofInt i_p0_days), .int (Int32.ofInt i_p0_least)])), (a_p0_kitchen, .inr (2, [.ref a_p0_kitchen_rules, .ref a_p0_kitchen_state, .ref a_p0_kitchen_places, .ref a_p0_kitchen_holders, .ref a_p0_kitchen_stirred])), (a_p0_kitchen_rules, .inr (6, [.int (Int32.ofInt i_p0_kitchen_rules_seats), .int (Int32.ofInt i_p0_kitchen_rules_stirs), .ref a_p0_kitchen_rules_need, .ref a_p0_kitchen_rules_kind, .ref a_p0_kitchen_rules_first, .ref a_p0_kitchen_rules_second, .ref a_p0_kitchen_rules_after])), (a_p0_kitchen_rules_after, .inl (G 1, 35, .inl (zA v_p0_kitchen_rules_after))), (a_p0_kitchen_places, .inl (G 1, 49, .inl (zA v_p0_kitchen_places))), (a_p0_kitchen_holders, .inl (G 1, 49, .inl (zA v_p0_kitchen_holders))), (a_p0_pots, .inl (G 1, 35, .inl (zA w6))), (a_p0_sums, .inl (G 1, 35, .inl (zA w16))), (a_p0_kings, .inl (G 1, 5, .inl (zA v_p0_kings))), (a_p0_bones, .inl (G 1, 5, .inl (zA v_p0_bones))), (a_p0_row, .inl (G 1, 4, .inl (zA v_p0_row)))] → va_S A s.heap H locs → lq2 B17 n z15 w16 = some (o_v_p0_pots, o_v_p0_sums, o_v_p0_kings, o_v_p0_bones) → W p l e rm_X1_goOn s m ([.ref a_p0, .int (Int32.ofInt x1)] : List Value).toArray below meth c H locs 0 0 Q (F0 m 85 ls []) := by
      clear hf hl hP hD hS
      intro n
      induction n with
      | zero =>
        intro z15 w16 ls H locs hl hP hD hS hf
        exact (lq2_0 hf).elim
      | succ n ih85 =>
        intro z15 w16 ls H locs hl hP hD hS hf
        replace hf := lq2_s eB17 hf
        unfold B_X1_goOn_85 at hf
        refine lv_iload hx hb dX1_goOn_85 (lv_at hl 0 rfl) ?_
        refine lv_aload_n hx hb dX1_goOn_87 rfl (lv_at hl 5 rfl) ?_
        refine va_get (D := D) (ci := 1) (v := .ref a_p0_kitchen) (C := RX1) (T := TX1) (N := 9) hx hb hts inX1_goOn_X1 hown hK hP 0 rfl rfl 0 (by decide) (hts _ mwX1_goOn_4) (fun _ h9 => h9) rfl dX1_goOn_88 ?_
        refine va_get (D := D) (ci := 2) (v := .ref a_p0_kitchen_rules) (C := RX2) (T := TX2) (N := 5) hx hb hts inX1_goOn_X2 hown hK hP 1 rfl rfl 0 (by decide) (hts _ mwX1_goOn_6) (fun _ h9 => h9) rfl dX1_goOn_91 ?_
        refine va_get (D := D) (ci := 6) (v := .int (Int32.ofInt i_p0_kitchen_rules_seats)) (C := RX6) (T := TX6) (N := 7) hx hb hts inX1_goOn_X6 hown hK hP 2 rfl rfl 0 (by decide) (hts _ mwX1_goOn_10) (fun _ h9 => h9) rfl dX1_goOn_94 ?_
        have hr17 := ck_c hf
        replace hf := ck_r hf
        have hr18 := ck_c hf
        replace hf := ck_r hf
        refine lv_icmp_ge (tgt := 145) hx hb dX1_goOn_97 (by decide) (fun cc => ?_) (fun cc => ?_)
        ·
          replace hf := ite_t ((z_le hr18 hr17).mp cc) hf
          clear cc
          exact hJ10 _ _ _ _ (lv_sub hl [3, 4, 5, 6] rfl) hP hD hS hf
        ·
          replace hf := ite_f (fun h9 => cc ((z_le hr18 hr17).mpr h9)) hf
          clear cc
          refine lv_aload_n hx hb dX1_goOn_100 rfl (lv_at hl 5 rfl) ?_
          refine va_get (D := D) (ci := 1) (v := .ref a_p0_sums) (C := RX1) (T := TX1) (N := 9) hx hb hts inX1_goOn_X1 hown hK hP 0 rfl rfl 2 (by decide) (hts _ mwX1_goOn_11) (fun _ h9 => h9) rfl dX1_goOn_101 ?_
          refine lv_iload hx hb dX1_goOn_104 (lv_at hl 1 rfl) ?_
          refine lv_iload hx hb dX1_goOn_106 (lv_at hl 0 rfl) ?_
          refine lv_iadd hx hb dX1_goOn_108 (z_ci (Int32.ofInt_add z4 z15) ?_)
          refine lv_aload_n hx hb dX1_goOn_109 rfl (lv_at hl 5 rfl) ?_
          refine va_get (D := D) (ci := 1) (v := .ref a_p0_sums) (C := RX1) (T := TX1) (N := 9) hx hb hts inX1_goOn_X1 hown hK hP 0 rfl rfl 2 (by decide) (hts _ mwX1_goOn_11) (fun _ h9 => h9) rfl dX1_goOn_110 ?_
          refine lv_iload hx hb dX1_goOn_113 (lv_at hl 2 rfl) ?_
          refine lv_iload hx hb dX1_goOn_115 (lv_at hl 0 rfl) ?_
          refine lv_iadd hx hb dX1_goOn_117 (z_ci (Int32.ofInt_add z3 z15) ?_)
          have hc := ck_c hf
          replace hf := ck_r hf
          refine va_iald hx hb hK hP 7 1 rfl rfl (z_ix_in hc) dX1_goOn_118 (z_ci (z_ald w16 hc) ?_)
          clear hc
          refine lv_aload_n hx hb dX1_goOn_119 rfl (lv_at hl 5 rfl) ?_
          refine va_get (D := D) (ci := 1) (v := .ref a_p0_pots) (C := RX1) (T := TX1) (N := 9) hx hb hts inX1_goOn_X1 hown hK hP 0 rfl rfl 1 (by decide) (hts _ mwX1_goOn_12) (fun _ h9 => h9) rfl dX1_goOn_120 ?_
          refine lv_iload hx hb dX1_goOn_123 (lv_at hl 1 rfl) ?_
          refine lv_aload_n hx hb dX1_goOn_125 rfl (lv_at hl 5 rfl) ?_
          refine va_get (D := D) (ci := 1) (v := .ref a_p0_kitchen) (C := RX1) (T := TX1) (N := 9) hx hb hts inX1_goOn_X1 hown hK hP 0 rfl rfl 0 (by decide) (hts _ mwX1_goOn_4) (fun _ h9 => h9) rfl dX1_goOn_126 ?_
          refine lv_iload_n hx hb dX1_goOn_129 rfl (lv_at hl 3 rfl) ?_
          refine lv_iload hx hb dX1_goOn_130 (lv_at hl 0 rfl) ?_
          have hq := bd1_s hf
          clear hf
          obtain ⟨z20, hcall, hf⟩ := hq
          refine gnI (va_runV (As := [.int (Int32.ofInt z2), .int (Int32.ofInt z15)]) (rest := [.int (Int32.ofInt z4), .ref a_p0_pots, .int (Int32.ofInt (w16 (z3 + z15))), .int (Int32.ofInt (z4 + z15)), .ref a_p0_sums]) ⟨hx, hb, hml, hown, hts⟩ (c_X2_placeOf (l := l) (D := D) (G := G) (sz := H.size) (a_p0 := a_p0_kitchen) (a_p0_rules := a_p0_kitchen_rules) (a_p0_state := a_p0_kitchen_state) (a_p0_places := a_p0_kitchen_places) (a_p0_holders := a_p0_kitchen_holders) (a_p0_stirred := a_p0_kitchen_stirred) (v_p0_places := v_p0_kitchen_places) (x1 := z2) (x2 := z15) (r := z20) (hf := hcall)) (cwV 2 hts gX1_goOn_X2_placeOf rfl rfl rfl hdV_yX2_placeOf_RX2 ⟨Nat.le_of_ble_eq_true rfl, Nat.le_of_ble_eq_true rfl⟩) (preG_V (ci := 2) (q := (RX2, TX2, 5)) (hP.sub [1, 4] rfl) (hD.sub [1, 4] rfl rfl) hK rfl rfl) rfl rfl hl.1 rfl (lv_room (Nat.le_of_ble_eq_true rfl)) dX1_goOn_132 ⟨Nat.le_of_ble_eq_true rfl, Nat.le_of_ble_eq_true rfl⟩) hP hD hS hA [1, 4] rfl (fun H locs hP hD hS => ?_)
          clear hcall
          refine lv_iadd hx hb dX1_goOn_135 (z_ci (Int32.ofInt_add z4 z20) ?_)
          have hc := ck_c hf
          replace hf := ck_r hf
          refine va_iald hx hb hK hP 6 1 rfl rfl (z_ix_in hc) dX1_goOn_136 (z_ci (z_ald w6 hc) ?_)
          clear hc
          refine lv_iadd hx hb dX1_goOn_137 (z_ci (Int32.ofInt_add (w16 (z3 + z15)) (w6 (z4 + z20))) ?_)
          have hc := ck_c hf
          replace hf := ck_r hf
          refine zs_iast (wf := fun w21 => [(a_p0, .inr (1, [.ref a_p0_kitchen, .ref a_p0_pots, .ref a_p0_sums, .ref a_p0_kings, .ref a_p0_bones, .ref a_p0_row, .ref a_p0_bestRow, .int (Int32.ofInt i_p0_days), .int (Int32.ofInt i_p0_least)])), (a_p0_kitchen, .inr (2, [.ref a_p0_kitchen_rules, .ref a_p0_kitchen_state, .ref a_p0_kitchen_places, .ref a_p0_kitchen_holders, .ref a_p0_kitchen_stirred])), (a_p0_kitchen_rules, .inr (6, [.int (Int32.ofInt i_p0_kitchen_rules_seats), .int (Int32.ofInt i_p0_kitchen_rules_stirs), .ref a_p0_kitchen_rules_need, .ref a_p0_kitchen_rules_kind, .ref a_p0_kitchen_rules_first, .ref a_p0_kitchen_rules_second, .ref a_p0_kitchen_rules_after])), (a_p0_kitchen_rules_after, .inl (G 1, 35, .inl (zA v_p0_kitchen_rules_after))), (a_p0_kitchen_places, .inl (G 1, 49, .inl (zA v_p0_kitchen_places))), (a_p0_kitchen_holders, .inl (G 1, 49, .inl (zA v_p0_kitchen_holders))), (a_p0_pots, .inl (G 1, 35, .inl (zA w6))), (a_p0_sums, .inl (G 1, 35, .inl (zA w21))), (a_p0_kings, .inl (G 1, 5, .inl (zA v_p0_kings))), (a_p0_bones, .inl (G 1, 5, .inl (zA v_p0_bones))), (a_p0_row, .inl (G 1, 4, .inl (zA v_p0_row)))]) hx hb hK hP hD hS 7 1 rfl rfl hc dX1_goOn_138 (fun _ => rfl) (fun w21 ez H locs hP hD hS => ?_)
          replace hf := bnd_s hf ez
          clear ez hc
          obtain ⟨z22, ez⟩ : ∃ y : Int, y = (z15 + (1 : Int)) := ⟨_, rfl⟩
          replace hf := bnd_s hf ez
          refine lv_iinc (v := Int32.ofInt z22) (lv' := [(6, .int (Int32.ofInt z22)), (5, .int (Int32.ofInt z4)), (4, .int (Int32.ofInt z3)), (3, .int (Int32.ofInt z2)), (2, .int (Int32.ofInt z1)), (0, .ref a_p0), (1, .int (Int32.ofInt x1))]) hx hb dX1_goOn_139 hl (k := 0) rfl (by rw [ez]; exact (Int32.ofInt_add _ _).symm) (by decide) rfl (fun ls hl => ?_)
          clear ez
          refine lv_goto (tgt := 85) hx hb dX1_goOn_142 (by decide) ?_
          exact ih85 _ _ _ _ _ (lv_sub hl [0, 1, 2, 3, 4, 5, 6] rfl) hP hD hS hf
    exact hB17 _ _ _ _ _ _ (lv_sub hl [0, 1, 2, 3, 4, 5, 6] rfl) hP hD hS hf
  have hq := lq2_i hf
  clear hf
  obtain ⟨B25, eB25, NB25, hf⟩ := hq
  have hB25 : ∀ (n : Nat) (z23 : Int) (w24 : (Int → Int)) (ls : Array Slot) (H : Heap) (locs : List Loc), lv_has ls 7 [(6, .int (Int32.ofInt z23)), (5, .int (Int32.ofInt z4)), (4, .int (Int32.ofInt z3)), (3, .int (Int32.ofInt z2)), (2, .int (Int32.ofInt z1)), (0, .ref a_p0), (1, .int (Int32.ofInt x1))] → va_P D vwCl [(a_p0, .inr (1, [.ref a_p0_kitchen, .ref a_p0_pots, .ref a_p0_sums, .ref a_p0_kings, .ref a_p0_bones, .ref a_p0_row, .ref a_p0_bestRow, .int (Int32.ofInt i_p0_days), .int (Int32.ofInt i_p0_least)])), (a_p0_kitchen, .inr (2, [.ref a_p0_kitchen_rules, .ref a_p0_kitchen_state, .ref a_p0_kitchen_places, .ref a_p0_kitchen_holders, .ref a_p0_kitchen_stirred])), (a_p0_kitchen_rules, .inr (6, [.int (Int32.ofInt i_p0_kitchen_rules_seats), .int (Int32.ofInt i_p0_kitchen_rules_stirs), .ref a_p0_kitchen_rules_need, .ref a_p0_kitchen_rules_kind, .ref a_p0_kitchen_rules_first, .ref a_p0_kitchen_rules_second, .ref a_p0_kitchen_rules_after])), (a_p0_kitchen_rules_after, .inl (G 1, 35, .inl (zA v_p0_kitchen_rules_after))), (a_p0_kitchen_places, .inl (G 1, 49, .inl (zA v_p0_kitchen_places))), (a_p0_kitchen_holders, .inl (G 1, 49, .inl (zA v_p0_kitchen_holders))), (a_p0_pots, .inl (G 1, 35, .inl (zA w24))), (a_p0_sums, .inl (G 1, 35, .inl (zA v_p0_sums))), (a_p0_kings, .inl (G 1, 5, .inl (zA v_p0_kings))), (a_p0_bones, .inl (G 1, 5, .inl (zA v_p0_bones))), (a_p0_row, .inl (G 1, 4, .inl (zA v_p0_row)))] H → va_D A [(a_p0, .inr (1, [.ref a_p0_kitchen, .ref a_p0_pots, .ref a_p0_sums, .ref a_p0_kings, .ref a_p0_bones, .ref a_p0_row, .ref a_p0_bestRow, .int (Int32.ofInt i_p0_days), .int (Int32.ofInt i_p0_least)])), (a_p0_kitchen, .inr (2, [.ref a_p0_kitchen_rules, .ref a_p0_kitchen_state, .ref a_p0_kitchen_places, .ref a_p0_kitchen_holders, .ref a_p0_kitchen_stirred])), (a_p0_kitchen_rules, .inr (6, [.int (Int32.ofInt i_p0_kitchen_rules_seats), .int (Int32.ofInt i_p0_kitchen_rules_stirs), .ref a_p0_kitchen_rules_need, .ref a_p0_kitchen_rules_kind, .ref a_p0_kitchen_rules_first, .ref a_p0_kitchen_rules_second, .ref a_p0_kitchen_rules_after])), (a_p0_kitchen_rules_after, .inl (G 1, 35, .inl (zA v_p0_kitchen_rules_after))), (a_p0_kitchen_places, .inl (G 1, 49, .inl (zA v_p0_kitchen_places))), (a_p0_kitchen_holders, .inl (G 1, 49, .inl (zA v_p0_kitchen_holders))), (a_p0_pots, .inl (G 1, 35, .inl (zA w24))), (a_p0_sums, .inl (G 1, 35, .inl (zA v_p0_sums))), (a_p0_kings, .inl (G 1, 5, .inl (zA v_p0_kings))), (a_p0_bones, .inl (G 1, 5, .inl (zA v_p0_bones))), (a_p0_row, .inl (G 1, 4, .inl (zA v_p0_row)))] → va_S A s.heap H locs → lq2 B25 n z23 w24 = some (o_v_p0_pots, o_v_p0_sums, o_v_p0_kings, o_v_p0_bones) → W p l e rm_X1_goOn s m ([.ref a_p0, .int (Int32.ofInt x1)] : List Value).toArray below meth c H locs 0 0 Q (F0 m 30 ls []) := by
    clear hf hl hP hD hS
    intro n
    induction n with
    | zero =>
      intro z23 w24 ls H locs hl hP hD hS hf
      exact (lq2_0 hf).elim
    | succ n ih30 =>
      intro z23 w24 ls H locs hl hP hD hS hf
      replace hf := lq2_s eB25 hf
      unfold B_X1_goOn_30 at hf
      refine lv_iload hx hb dX1_goOn_30 (lv_at hl 0 rfl) ?_
      refine lv_aload_n hx hb dX1_goOn_32 rfl (lv_at hl 5 rfl) ?_
      refine va_get (D := D) (ci := 1) (v := .ref a_p0_kitchen) (C := RX1) (T := TX1) (N := 9) hx hb hts inX1_goOn_X1 hown hK hP 0 rfl rfl 0 (by decide) (hts _ mwX1_goOn_4) (fun _ h9 => h9) rfl dX1_goOn_33 ?_
      refine va_get (D := D) (ci := 2) (v := .ref a_p0_kitchen_rules) (C := RX2) (T := TX2) (N := 5) hx hb hts inX1_goOn_X2 hown hK hP 1 rfl rfl 0 (by decide) (hts _ mwX1_goOn_6) (fun _ h9 => h9) rfl dX1_goOn_36 ?_
      refine va_get (D := D) (ci := 6) (v := .int (Int32.ofInt i_p0_kitchen_rules_seats)) (C := RX6) (T := TX6) (N := 7) hx hb hts inX1_goOn_X6 hown hK hP 2 rfl rfl 0 (by decide) (hts _ mwX1_goOn_10) (fun _ h9 => h9) rfl dX1_goOn_39 ?_
      have hr25 := ck_c hf
      replace hf := ck_r hf
      have hr26 := ck_c hf
      replace hf := ck_r hf
      refine lv_icmp_ge (tgt := 82) hx hb dX1_goOn_42 (by decide) (fun cc => ?_) (fun cc => ?_)
      ·
        replace hf := ite_t ((z_le hr26 hr25).mp cc) hf
        clear cc
        exact hJ7 _ _ _ _ (lv_sub hl [1, 2, 3, 4, 5, 6] rfl) hP hD hS hf
      ·
        replace hf := ite_f (fun h9 => cc ((z_le hr26 hr25).mpr h9)) hf
        clear cc
        refine lv_aload_n hx hb dX1_goOn_45 rfl (lv_at hl 5 rfl) ?_
        refine va_get (D := D) (ci := 1) (v := .ref a_p0_pots) (C := RX1) (T := TX1) (N := 9) hx hb hts inX1_goOn_X1 hown hK hP 0 rfl rfl 1 (by decide) (hts _ mwX1_goOn_12) (fun _ h9 => h9) rfl dX1_goOn_46 ?_
        refine lv_iload hx hb dX1_goOn_49 (lv_at hl 1 rfl) ?_
        refine lv_aload_n hx hb dX1_goOn_51 rfl (lv_at hl 5 rfl) ?_
        refine va_get (D := D) (ci := 1) (v := .ref a_p0_kitchen) (C := RX1) (T := TX1) (N := 9) hx hb hts inX1_goOn_X1 hown hK hP 0 rfl rfl 0 (by decide) (hts _ mwX1_goOn_4) (fun _ h9 => h9) rfl dX1_goOn_52 ?_
        refine va_get (D := D) (ci := 2) (v := .ref a_p0_kitchen_rules) (C := RX2) (T := TX2) (N := 5) hx hb hts inX1_goOn_X2 hown hK hP 1 rfl rfl 0 (by decide) (hts _ mwX1_goOn_6) (fun _ h9 => h9) rfl dX1_goOn_55 ?_
        refine lv_iload_n hx hb dX1_goOn_58 rfl (lv_at hl 4 rfl) ?_
        refine lv_iload hx hb dX1_goOn_59 (lv_at hl 0 rfl) ?_
        have hq := bd1_s hf
        clear hf
        obtain ⟨z28, hcall, hf⟩ := hq
        refine gnI (va_runV (As := [.int (Int32.ofInt z1), .int (Int32.ofInt z23)]) (rest := [.int (Int32.ofInt z4), .ref a_p0_pots]) ⟨hx, hb, hml, hown, hts⟩ (c_X6_placeAfter (l := l) (D := D) (G := G) (sz := H.size) (a_p0 := a_p0_kitchen_rules) (a_p0_need := a_p0_kitchen_rules_need) (a_p0_kind := a_p0_kitchen_rules_kind) (a_p0_first := a_p0_kitchen_rules_first) (a_p0_second := a_p0_kitchen_rules_second) (a_p0_after := a_p0_kitchen_rules_after) (i_p0_seats := i_p0_kitchen_rules_seats) (i_p0_stirs := i_p0_kitchen_rules_stirs) (v_p0_after := v_p0_kitchen_rules_after) (x1 := z1) (x2 := z23) (r := z28) (hf := hcall)) (cwV 2 hts gX1_goOn_X6_placeAfter rfl rfl rfl hdV_yX6_placeAfter_RX6 ⟨Nat.le_of_ble_eq_true rfl, Nat.le_of_ble_eq_true rfl⟩) (preG_V (ci := 6) (q := (RX6, TX6, 7)) (hP.sub [2, 3] rfl) (hD.sub [2, 3] rfl rfl) hK rfl rfl) rfl rfl hl.1 rfl (lv_room (Nat.le_of_ble_eq_true rfl)) dX1_goOn_61 ⟨Nat.le_of_ble_eq_true rfl, Nat.le_of_ble_eq_true rfl⟩) hP hD hS hA [2, 3] rfl (fun H locs hP hD hS => ?_)
        clear hcall
        refine lv_iadd hx hb dX1_goOn_64 (z_ci (Int32.ofInt_add z4 z28) ?_)
        refine lv_aload_n hx hb dX1_goOn_65 rfl (lv_at hl 5 rfl) ?_
        refine va_get (D := D) (ci := 1) (v := .ref a_p0_pots) (C := RX1) (T := TX1) (N := 9) hx hb hts inX1_goOn_X1 hown hK hP 0 rfl rfl 1 (by decide) (hts _ mwX1_goOn_12) (fun _ h9 => h9) rfl dX1_goOn_66 ?_
        refine lv_iload hx hb dX1_goOn_69 (lv_at hl 2 rfl) ?_
        refine lv_iload hx hb dX1_goOn_71 (lv_at hl 0 rfl) ?_
        refine lv_iadd hx hb dX1_goOn_73 (z_ci (Int32.ofInt_add z3 z23) ?_)
        have hc := ck_c hf
        replace hf := ck_r hf
        refine va_iald hx hb hK hP 6 1 rfl rfl (z_ix_in hc) dX1_goOn_74 (z_ci (z_ald w24 hc) ?_)
        clear hc
        have hc := ck_c hf
        replace hf := ck_r hf
        refine zs_iast (wf := fun w29 => [(a_p0, .inr (1, [.ref a_p0_kitchen, .ref a_p0_pots, .ref a_p0_sums, .ref a_p0_kings, .ref a_p0_bones, .ref a_p0_row, .ref a_p0_bestRow, .int (Int32.ofInt i_p0_days), .int (Int32.ofInt i_p0_least)])), (a_p0_kitchen, .inr (2, [.ref a_p0_kitchen_rules, .ref a_p0_kitchen_state, .ref a_p0_kitchen_places, .ref a_p0_kitchen_holders, .ref a_p0_kitchen_stirred])), (a_p0_kitchen_rules, .inr (6, [.int (Int32.ofInt i_p0_kitchen_rules_seats), .int (Int32.ofInt i_p0_kitchen_rules_stirs), .ref a_p0_kitchen_rules_need, .ref a_p0_kitchen_rules_kind, .ref a_p0_kitchen_rules_first, .ref a_p0_kitchen_rules_second, .ref a_p0_kitchen_rules_after])), (a_p0_kitchen_rules_after, .inl (G 1, 35, .inl (zA v_p0_kitchen_rules_after))), (a_p0_kitchen_places, .inl (G 1, 49, .inl (zA v_p0_kitchen_places))), (a_p0_kitchen_holders, .inl (G 1, 49, .inl (zA v_p0_kitchen_holders))), (a_p0_pots, .inl (G 1, 35, .inl (zA w29))), (a_p0_sums, .inl (G 1, 35, .inl (zA v_p0_sums))), (a_p0_kings, .inl (G 1, 5, .inl (zA v_p0_kings))), (a_p0_bones, .inl (G 1, 5, .inl (zA v_p0_bones))), (a_p0_row, .inl (G 1, 4, .inl (zA v_p0_row)))]) hx hb hK hP hD hS 6 1 rfl rfl hc dX1_goOn_75 (fun _ => rfl) (fun w29 ez H locs hP hD hS => ?_)
        replace hf := bnd_s hf ez
        clear ez hc
        obtain ⟨z30, ez⟩ : ∃ y : Int, y = (z23 + (1 : Int)) := ⟨_, rfl⟩
        replace hf := bnd_s hf ez
        refine lv_iinc (v := Int32.ofInt z30) (lv' := [(6, .int (Int32.ofInt z30)), (5, .int (Int32.ofInt z4)), (4, .int (Int32.ofInt z3)), (3, .int (Int32.ofInt z2)), (2, .int (Int32.ofInt z1)), (0, .ref a_p0), (1, .int (Int32.ofInt x1))]) hx hb dX1_goOn_76 hl (k := 0) rfl (by rw [ez]; exact (Int32.ofInt_add _ _).symm) (by decide) rfl (fun ls hl => ?_)
        clear ez
        refine lv_goto (tgt := 30) hx hb dX1_goOn_79 (by decide) ?_
        exact ih30 _ _ _ _ _ (lv_sub hl [0, 1, 2, 3, 4, 5, 6] rfl) hP hD hS hf
  exact hB25 _ _ _ _ _ _ (lv_sub hl [0, 1, 2, 3, 4, 5, 6] rfl) hP hD hS hf

noncomputable def B_X1_weigh_17 (i_p0_kitchen_rules_seats : Int) (J6 : Int → Int → Option (Int × (Int → Int))) (i_p0_days : Int) (v_p0_sums : (Int → Int)) (again17 : Int → Int → Int → Option (Int × (Int → Int))) (z12 : Int) (z13 : Int) (z14 : Int) : Option (Int × (Int → Int)) := (ck (z_r32 z12) (ck (z_r32 i_p0_kitchen_rules_seats) (if i_p0_kitchen_rules_seats ≤ z12 then (J6 z14 z13) else (ck (z_ix ((i_p0_days * (7 : Int)) + z12) 35) (ck (z_r32 z14) (ck (z_r32 (v_p0_sums ((i_p0_days * (7 : Int)) + z12))) (bnd (max z14 (v_p0_sums ((i_p0_days * (7 : Int)) + z12))) (fun (z20 : Int) => (ck (z_ix ((i_p0_days * (7 : Int)) + z12) 35) (ck (z_r32 z13) (bnd (min z13 (v_p0_sums ((i_p0_days * (7 : Int)) + z12))) (fun (z22 : Int) => (bnd (z12 + (1 : Int)) (fun (z23 : Int) => (again17 z23 z22 z20)))))))))))))))
noncomputable def f_X1_weigh (i_p0_days : Int) (i_p0_least : Int) (i_p0_kitchen_rules_seats : Int) (v_p0_sums : (Int → Int)) (v_p0_row : (Int → Int)) (v_p0_bestRow : (Int → Int)) : Option (Int × (Int → Int)) := (ck (z_ix (i_p0_days * (7 : Int)) 35) (bnd (v_p0_sums (i_p0_days * (7 : Int))) (fun (z1 : Int) => (bnd z1 (fun (z2 : Int) => (bnd (1 : Int) (fun (z3 : Int) => (jn (fun (z4 : Int) (z5 : Int) => (ck (z_r32 i_p0_least) (jn (bnd (z4 - z5) (fun (z9 : Int) => (ck (z_cp (0 : Int) i_p0_days 4) (ck (z_cp (0 : Int) i_p0_days 4) (bnd (z_cpy v_p0_row v_p0_bestRow (0 : Int) (0 : Int) i_p0_days) (fun (w10 : (Int → Int)) => (some (z9, w10)))))))) (fun (J8 : Option (Int × (Int → Int))) => (if i_p0_least = (-4 : Int) then (J8) else (ck (z_r32 (z4 - z5)) (if i_p0_least ≤ (z4 - z5) then (some (i_p0_least, v_p0_bestRow)) else (J8)))))))) (fun (J6 : Int → Int → Option (Int × (Int → Int))) => (lq3 (B_X1_weigh_17 i_p0_kitchen_rules_seats J6 i_p0_days v_p0_sums) 1000 z3 z2 z1))))))))))
abbrev rm_X1_weigh : Room := { frames := 1, cells := 0, slots := 0, locals := 60 }
theorem inX1_weigh_X1 : ∀ w ∈ wsX10, w ∈ wsX1_weigh := by first | exact fun w h => List.mem_cons_of_mem _ (List.mem_append_left _ (List.mem_append_left _ (List.mem_append_right _ h))) | decide +kernel
theorem mwX1_weigh_1 : Cond.fieldLink RX1 15 "LadleKings$FairDays" "sums" "[I" ∈ wsX1_weigh := by first | exact List.mem_of_getElem? (i := 1) rfl | decide +kernel
theorem mwX1_weigh_2 : Cond.fieldLink RX1 30 "LadleKings$FairDays" "days" "I" ∈ wsX1_weigh := by first | exact List.mem_of_getElem? (i := 2) rfl | decide +kernel
theorem mwX1_weigh_3 : Cond.fieldLink RX1 34 "LadleKings$FairDays" "least" "I" ∈ wsX1_weigh := by first | exact List.mem_of_getElem? (i := 13) rfl | decide +kernel
theorem mwX1_weigh_4 : Cond.fieldLink RX1 24 "LadleKings$FairDays" "row" "[I" ∈ wsX1_weigh := by first | exact List.mem_of_getElem? (i := 14) rfl | decide +kernel
theorem mwX1_weigh_5 : Cond.fieldLink RX1 27 "LadleKings$FairDays" "bestRow" "[I" ∈ wsX1_weigh := by first | exact List.mem_of_getElem? (i := 15) rfl | decide +kernel
theorem mwX1_weigh_6 : Cond.methodLink RX1 84 arraycopyName ∈ wsX1_weigh := by first | exact List.mem_of_getElem? (i := 16) rfl | decide +kernel
theorem mwX1_weigh_7 : Cond.native arraycopyName ∈ wsX1_weigh := by first | exact List.mem_of_getElem? (i := 17) rfl | decide +kernel
theorem mwX1_weigh_8 : Cond.static arraycopyName ∈ wsX1_weigh := by first | exact List.mem_of_getElem? (i := 18) rfl | decide +kernel
theorem mwX1_weigh_9 : Cond.initialized "java/lang/System" ∈ wsX1_weigh := by first | exact List.mem_of_getElem? (i := 19) rfl | decide +kernel
theorem mwX1_weigh_10 : Cond.fieldLink RX1 37 "LadleKings$FairDays" "kitchen" "LLadleKings$Kitchen;" ∈ wsX1_weigh := by first | exact List.mem_of_getElem? (i := 3) rfl | decide +kernel
theorem inX1_weigh_X2 : ∀ w ∈ wsX20, w ∈ wsX1_weigh := by first | exact fun w h => List.mem_cons_of_mem _ (List.mem_append_left _ (List.mem_append_right _ h)) | decide +kernel
theorem mwX1_weigh_12 : Cond.fieldLink RX1 75 "LadleKings$Kitchen" "rules" "LLadleKings$Rules;" ∈ wsX1_weigh := by first | exact List.mem_of_getElem? (i := 4) rfl | decide +kernel
theorem inX1_weigh_X6 : ∀ w ∈ wsX60, w ∈ wsX1_weigh := by first | exact fun w h => List.mem_cons_of_mem _ (List.mem_append_right _ h) | decide +kernel
theorem mwX1_weigh_14 : Cond.fieldLink RX1 79 "LadleKings$Rules" "seats" "I" ∈ wsX1_weigh := by first | exact List.mem_of_getElem? (i := 5) rfl | decide +kernel
theorem mwX1_weigh_15 : Cond.methodLink RX1 111 Lib.Math.max.name ∈ wsX1_weigh := by first | exact List.mem_of_getElem? (i := 6) rfl | decide +kernel
theorem mwX1_weigh_16 : Cond.static Lib.Math.max.name ∈ wsX1_weigh := by first | exact List.mem_of_getElem? (i := 7) rfl | decide +kernel
theorem mwX1_weigh_17 : Cond.initialized "java/lang/Math" ∈ wsX1_weigh := by first | exact List.mem_of_getElem? (i := 8) rfl | decide +kernel
theorem mwX1_weigh_18 : Cond.code Lib.Math.max.name Lib.Math.max.code 2 (some .int) ∈ wsX1_weigh := by first | exact List.mem_of_getElem? (i := 9) rfl | decide +kernel
theorem mwX1_weigh_19 : Cond.methodLink RX1 41 Lib.Math.min.name ∈ wsX1_weigh := by first | exact List.mem_of_getElem? (i := 10) rfl | decide +kernel
theorem mwX1_weigh_20 : Cond.static Lib.Math.min.name ∈ wsX1_weigh := by first | exact List.mem_of_getElem? (i := 11) rfl | decide +kernel
theorem mwX1_weigh_21 : Cond.code Lib.Math.min.name Lib.Math.min.code 2 (some .int) ∈ wsX1_weigh := by first | exact List.mem_of_getElem? (i := 12) rfl | decide +kernel
set_option maxHeartbeats 8000000 in
set_option maxRecDepth 100000 in
theorem c_X1_weigh (l : Launch) (D : va_G) (G : Nat → ClassId) (sz : Nat) (a_p0 : Nat) (a_p0_kitchen : Nat) (a_p0_pots : Nat) (a_p0_sums : Nat) (a_p0_kings : Nat) (a_p0_bones : Nat) (a_p0_row : Nat) (a_p0_bestRow : Nat) (a_p0_kitchen_rules : Nat) (a_p0_kitchen_state : Nat) (a_p0_kitchen_places : Nat) (a_p0_kitchen_holders : Nat) (a_p0_kitchen_stirred : Nat) (a_p0_kitchen_rules_need : Nat) (a_p0_kitchen_rules_kind : Nat) (a_p0_kitchen_rules_first : Nat) (a_p0_kitchen_rules_second : Nat) (a_p0_kitchen_rules_after : Nat) (i_p0_days : Int) (i_p0_least : Int) (i_p0_kitchen_rules_seats : Int) (i_p0_kitchen_rules_stirs : Int) (v_p0_sums : (Int → Int)) (v_p0_row : (Int → Int)) (v_p0_bestRow : (Int → Int)) (o_i_p0_least : Int) (o_v_p0_bestRow : (Int → Int)) (hf : f_X1_weigh i_p0_days i_p0_least i_p0_kitchen_rules_seats v_p0_sums v_p0_row v_p0_bestRow = some (o_i_p0_least, o_v_p0_bestRow)) : Met l yX1_weigh wsX1_weigh rm_X1_weigh (pcG D G [.ref a_p0] sz [(a_p0, .inr (1, [.ref a_p0_kitchen, .ref a_p0_pots, .ref a_p0_sums, .ref a_p0_kings, .ref a_p0_bones, .ref a_p0_row, .ref a_p0_bestRow, .int (Int32.ofInt i_p0_days), .int (Int32.ofInt i_p0_least)])), (a_p0_kitchen, .inr (2, [.ref a_p0_kitchen_rules, .ref a_p0_kitchen_state, .ref a_p0_kitchen_places, .ref a_p0_kitchen_holders, .ref a_p0_kitchen_stirred])), (a_p0_kitchen_rules, .inr (6, [.int (Int32.ofInt i_p0_kitchen_rules_seats), .int (Int32.ofInt i_p0_kitchen_rules_stirs), .ref a_p0_kitchen_rules_need, .ref a_p0_kitchen_rules_kind, .ref a_p0_kitchen_rules_first, .ref a_p0_kitchen_rules_second, .ref a_p0_kitchen_rules_after])), (a_p0_sums, .inl (G 1, 35, .inl (zA v_p0_sums))), (a_p0_row, .inl (G 1, 4, .inl (zA v_p0_row))), (a_p0_bestRow, .inl (G 1, 4, .inl (zA v_p0_bestRow)))]) (qcV D G [(a_p0, .inr (1, [.ref a_p0_kitchen, .ref a_p0_pots, .ref a_p0_sums, .ref a_p0_kings, .ref a_p0_bones, .ref a_p0_row, .ref a_p0_bestRow, .int (Int32.ofInt i_p0_days), .int (Int32.ofInt o_i_p0_least)])), (a_p0_kitchen, .inr (2, [.ref a_p0_kitchen_rules, .ref a_p0_kitchen_state, .ref a_p0_kitchen_places, .ref a_p0_kitchen_holders, .ref a_p0_kitchen_stirred])), (a_p0_kitchen_rules, .inr (6, [.int (Int32.ofInt i_p0_kitchen_rules_seats), .int (Int32.ofInt i_p0_kitchen_rules_stirs), .ref a_p0_kitchen_rules_need, .ref a_p0_kitchen_rules_kind, .ref a_p0_kitchen_rules_first, .ref a_p0_kitchen_rules_second, .ref a_p0_kitchen_rules_after])), (a_p0_sums, .inl (G 1, 35, .inl (zA v_p0_sums))), (a_p0_row, .inl (G 1, 4, .inl (zA v_p0_row))), (a_p0_bestRow, .inl (G 1, 4, .inl (zA o_v_p0_bestRow)))] (va_A [(a_p0, .inr (1, [.ref a_p0_kitchen, .ref a_p0_pots, .ref a_p0_sums, .ref a_p0_kings, .ref a_p0_bones, .ref a_p0_row, .ref a_p0_bestRow, .int (Int32.ofInt i_p0_days), .int (Int32.ofInt i_p0_least)])), (a_p0_kitchen, .inr (2, [.ref a_p0_kitchen_rules, .ref a_p0_kitchen_state, .ref a_p0_kitchen_places, .ref a_p0_kitchen_holders, .ref a_p0_kitchen_stirred])), (a_p0_kitchen_rules, .inr (6, [.int (Int32.ofInt i_p0_kitchen_rules_seats), .int (Int32.ofInt i_p0_kitchen_rules_stirs), .ref a_p0_kitchen_rules_need, .ref a_p0_kitchen_rules_kind, .ref a_p0_kitchen_rules_first, .ref a_p0_kitchen_rules_second, .ref a_p0_kitchen_rules_after])), (a_p0_sums, .inl (G 1, 35, .inl (zA v_p0_sums))), (a_p0_row, .inl (G 1, 4, .inl (zA v_p0_row))), (a_p0_bestRow, .inl (G 1, 4, .inl (zA v_p0_bestRow)))] sz)) 0 0 (va_A [(a_p0, .inr (1, [.ref a_p0_kitchen, .ref a_p0_pots, .ref a_p0_sums, .ref a_p0_kings, .ref a_p0_bones, .ref a_p0_row, .ref a_p0_bestRow, .int (Int32.ofInt i_p0_days), .int (Int32.ofInt i_p0_least)])), (a_p0_kitchen, .inr (2, [.ref a_p0_kitchen_rules, .ref a_p0_kitchen_state, .ref a_p0_kitchen_places, .ref a_p0_kitchen_holders, .ref a_p0_kitchen_stirred])), (a_p0_kitchen_rules, .inr (6, [.int (Int32.ofInt i_p0_kitchen_rules_seats), .int (Int32.ofInt i_p0_kitchen_rules_stirs), .ref a_p0_kitchen_rules_need, .ref a_p0_kitchen_rules_kind, .ref a_p0_kitchen_rules_first, .ref a_p0_kitchen_rules_second, .ref a_p0_kitchen_rules_after])), (a_p0_sums, .inl (G 1, 35, .inl (zA v_p0_sums))), (a_p0_row, .inl (G 1, 4, .inl (zA v_p0_row))), (a_p0_bestRow, .inl (G 1, 4, .inl (zA v_p0_bestRow)))] sz) := by
  refine Met.ofW (cc := cX1_weigh) (maxL := 4) (ret := none) (by decide) rfl ?_
  intro p e s m args below meth c s₁ B hml hv
  obtain ⟨rfl, hsz, hP, hK, hD0⟩ := hv
  have hx := B.exec
  have hb := B.bytes
  have hr := B.returns
  have hts := atoms_spec (ws := wsX1_weigh) B.pre
  have hown : s.vm.findClass RX1 = some m.cls := findClass_of_methodNamed B.named
  have hlocks := B.notSynchronized
  subst hsz
  have hD := hD0.self (sz := s.heap.size)
  generalize hAe : va_A [(a_p0, .inr (1, [.ref a_p0_kitchen, .ref a_p0_pots, .ref a_p0_sums, .ref a_p0_kings, .ref a_p0_bones, .ref a_p0_row, .ref a_p0_bestRow, .int (Int32.ofInt i_p0_days), .int (Int32.ofInt i_p0_least)])), (a_p0_kitchen, .inr (2, [.ref a_p0_kitchen_rules, .ref a_p0_kitchen_state, .ref a_p0_kitchen_places, .ref a_p0_kitchen_holders, .ref a_p0_kitchen_stirred])), (a_p0_kitchen_rules, .inr (6, [.int (Int32.ofInt i_p0_kitchen_rules_seats), .int (Int32.ofInt i_p0_kitchen_rules_stirs), .ref a_p0_kitchen_rules_need, .ref a_p0_kitchen_rules_kind, .ref a_p0_kitchen_rules_first, .ref a_p0_kitchen_rules_second, .ref a_p0_kitchen_rules_after])), (a_p0_sums, .inl (G 1, 35, .inl (zA v_p0_sums))), (a_p0_row, .inl (G 1, 4, .inl (zA v_p0_row))), (a_p0_bestRow, .inl (G 1, 4, .inl (zA v_p0_bestRow)))] s.heap.size = A at hD ⊢
  have hA : ∀ q : Nat, s.heap.size ≤ q → A q := fun q h => by rw [← hAe]; exact Or.inr h
  clear hAe hD0
  have hS : va_S A s.heap s.heap [] := va_S.rf
  have hl := lv_entry ([.ref a_p0]) (n := 4) (Nat.le_of_ble_eq_true rfl)
  rw [lg_entry_eq]
  generalize (lg_sl ([.ref a_p0]) ++ List.replicate (4 - (lg_sl ([.ref a_p0])).length) Slot.unset).toArray = ls at hl ⊢
  have hl : lv_has ls 4 [(0, .ref a_p0)] := hl
  refine W_nameQ (fun Q hQ => ?_)
  obtain ⟨H, hH⟩ : ∃ H, H = s.heap := ⟨_, rfl⟩
  replace hS : va_S A s.heap H [] := by rw [hH]; exact hS
  replace hP : va_P D vwCl [(a_p0, .inr (1, [.ref a_p0_kitchen, .ref a_p0_pots, .ref a_p0_sums, .ref a_p0_kings, .ref a_p0_bones, .ref a_p0_row, .ref a_p0_bestRow, .int (Int32.ofInt i_p0_days), .int (Int32.ofInt i_p0_least)])), (a_p0_kitchen, .inr (2, [.ref a_p0_kitchen_rules, .ref a_p0_kitchen_state, .ref a_p0_kitchen_places, .ref a_p0_kitchen_holders, .ref a_p0_kitchen_stirred])), (a_p0_kitchen_rules, .inr (6, [.int (Int32.ofInt i_p0_kitchen_rules_seats), .int (Int32.ofInt i_p0_kitchen_rules_stirs), .ref a_p0_kitchen_rules_need, .ref a_p0_kitchen_rules_kind, .ref a_p0_kitchen_rules_first, .ref a_p0_kitchen_rules_second, .ref a_p0_kitchen_rules_after])), (a_p0_sums, .inl (G 1, 35, .inl (zA v_p0_sums))), (a_p0_row, .inl (G 1, 4, .inl (zA v_p0_row))), (a_p0_bestRow, .inl (G 1, 4, .inl (zA v_p0_bestRow)))] H := by rw [hH]; exact hP
  rw [← hH]
  clear hH
  unfold f_X1_weigh at hf
  refine lv_aload_n hx hb dX1_weigh_0 rfl (lv_at hl 0 rfl) ?_
  refine va_get (D := D) (ci := 1) (v := .ref a_p0_sums) (C := RX1) (T := TX1) (N := 9) hx hb hts inX1_weigh_X1 hown hK hP 0 rfl rfl 2 (by decide) (hts _ mwX1_weigh_1) (fun _ h9 => h9) rfl dX1_weigh_1 ?_
  refine lv_aload_n hx hb dX1_weigh_4 rfl (lv_at hl 0 rfl) ?_
  refine va_get (D := D) (ci := 1) (v := .int (Int32.ofInt i_p0_days)) (C := RX1) (T := TX1) (N := 9) hx hb hts inX1_weigh_X1 hown hK hP 0 rfl rfl 7 (by decide) (hts _ mwX1_weigh_2) (fun _ h9 => h9) rfl dX1_weigh_5 ?_
  refine lv_bipush (v := Int32.ofInt (7 : Int)) hx hb dX1_weigh_8 (by decide) ?_
  refine lv_imul hx hb dX1_weigh_10 (z_ci (Int32.ofInt_mul i_p0_days (7 : Int)) ?_)
  have hc := ck_c hf
  replace hf := ck_r hf
  refine va_iald hx hb hK hP 3 1 rfl rfl (z_ix_in hc) dX1_weigh_11 (z_ci (z_ald v_p0_sums hc) ?_)
  clear hc
  refine z_topi (fun z1 ez => ?_)
  replace hf := bnd_s hf ez
  clear ez
  refine lv_istore_n (lv' := [(1, .int (Int32.ofInt z1)), (0, .ref a_p0)]) hx hb dX1_weigh_12 rfl hl (by decide) rfl (fun ls hl => ?_)
  refine lv_iload_n hx hb dX1_weigh_13 rfl (lv_at hl 0 rfl) ?_
  refine z_topi (fun z2 ez => ?_)
  replace hf := bnd_s hf ez
  clear ez
  refine lv_istore_n (lv' := [(2, .int (Int32.ofInt z2)), (1, .int (Int32.ofInt z1)), (0, .ref a_p0)]) hx hb dX1_weigh_14 rfl hl (by decide) rfl (fun ls hl => ?_)
  refine lv_iconst (v := Int32.ofInt (1 : Int)) hx hb dX1_weigh_15 (by decide) ?_
  refine z_topi (fun z3 ez => ?_)
  replace hf := bnd_s hf ez
  clear ez
  refine lv_istore_n (lv' := [(3, .int (Int32.ofInt z3)), (2, .int (Int32.ofInt z2)), (1, .int (Int32.ofInt z1)), (0, .ref a_p0)]) hx hb dX1_weigh_16 rfl hl (by decide) rfl (fun ls hl => ?_)
  have hq := jn_i hf
  clear hf
  obtain ⟨J6, eJ6, hf⟩ := hq
  have hJ6 : ∀ (z4 : Int) (z5 : Int) (ls : Array Slot) (H : Heap) (locs : List Loc), lv_has ls 4 [(2, .int (Int32.ofInt z5)), (1, .int (Int32.ofInt z4)), (0, .ref a_p0)] → va_P D vwCl [(a_p0, .inr (1, [.ref a_p0_kitchen, .ref a_p0_pots, .ref a_p0_sums, .ref a_p0_kings, .ref a_p0_bones, .ref a_p0_row, .ref a_p0_bestRow, .int (Int32.ofInt i_p0_days), .int (Int32.ofInt i_p0_least)])), (a_p0_kitchen, .inr (2, [.ref a_p0_kitchen_rules, .ref a_p0_kitchen_state, .ref a_p0_kitchen_places, .ref a_p0_kitchen_holders, .ref a_p0_kitchen_stirred])), (a_p0_kitchen_rules, .inr (6, [.int (Int32.ofInt i_p0_kitchen_rules_seats), .int (Int32.ofInt i_p0_kitchen_rules_stirs), .ref a_p0_kitchen_rules_need, .ref a_p0_kitchen_rules_kind, .ref a_p0_kitchen_rules_first, .ref a_p0_kitchen_rules_second, .ref a_p0_kitchen_rules_after])), (a_p0_sums, .inl (G 1, 35, .inl (zA v_p0_sums))), (a_p0_row, .inl (G 1, 4, .inl (zA v_p0_row))), (a_p0_bestRow, .inl (G 1, 4, .inl (zA v_p0_bestRow)))] H → va_D A [(a_p0, .inr (1, [.ref a_p0_kitchen, .ref a_p0_pots, .ref a_p0_sums, .ref a_p0_kings, .ref a_p0_bones, .ref a_p0_row, .ref a_p0_bestRow, .int (Int32.ofInt i_p0_days), .int (Int32.ofInt i_p0_least)])), (a_p0_kitchen, .inr (2, [.ref a_p0_kitchen_rules, .ref a_p0_kitchen_state, .ref a_p0_kitchen_places, .ref a_p0_kitchen_holders, .ref a_p0_kitchen_stirred])), (a_p0_kitchen_rules, .inr (6, [.int (Int32.ofInt i_p0_kitchen_rules_seats), .int (Int32.ofInt i_p0_kitchen_rules_stirs), .ref a_p0_kitchen_rules_need, .ref a_p0_kitchen_rules_kind, .ref a_p0_kitchen_rules_first, .ref a_p0_kitchen_rules_second, .ref a_p0_kitchen_rules_after])), (a_p0_sums, .inl (G 1, 35, .inl (zA v_p0_sums))), (a_p0_row, .inl (G 1, 4, .inl (zA v_p0_row))), (a_p0_bestRow, .inl (G 1, 4, .inl (zA v_p0_bestRow)))] → va_S A s.heap H locs → J6 z4 z5 = some (o_i_p0_least, o_v_p0_bestRow) → W p l e rm_X1_weigh s m ([.ref a_p0] : List Value).toArray below meth c H locs 0 0 Q (F0 m 75 ls []) := by
    clear hf hl hP hD hS
    intro z4 z5 ls H locs hl hP hD hS hf
    replace hf := jn2_s eJ6 hf
    refine lv_aload_n hx hb dX1_weigh_75 rfl (lv_at hl 2 rfl) ?_
    refine va_get (D := D) (ci := 1) (v := .int (Int32.ofInt i_p0_least)) (C := RX1) (T := TX1) (N := 9) hx hb hts inX1_weigh_X1 hown hK hP 0 rfl rfl 8 (by decide) (hts _ mwX1_weigh_3) (fun _ h9 => h9) rfl dX1_weigh_76 ?_
    refine lv_bipush (v := Int32.ofInt (-4 : Int)) hx hb dX1_weigh_79 (by decide) ?_
    have hr6 := ck_c hf
    replace hf := ck_r hf
    have hq := jn_i hf
    clear hf
    obtain ⟨J8, eJ8, hf⟩ := hq
    have hJ8 : ∀  (ls : Array Slot) (H : Heap) (locs : List Loc), lv_has ls 4 [(2, .int (Int32.ofInt z5)), (1, .int (Int32.ofInt z4)), (0, .ref a_p0)] → va_P D vwCl [(a_p0, .inr (1, [.ref a_p0_kitchen, .ref a_p0_pots, .ref a_p0_sums, .ref a_p0_kings, .ref a_p0_bones, .ref a_p0_row, .ref a_p0_bestRow, .int (Int32.ofInt i_p0_days), .int (Int32.ofInt i_p0_least)])), (a_p0_kitchen, .inr (2, [.ref a_p0_kitchen_rules, .ref a_p0_kitchen_state, .ref a_p0_kitchen_places, .ref a_p0_kitchen_holders, .ref a_p0_kitchen_stirred])), (a_p0_kitchen_rules, .inr (6, [.int (Int32.ofInt i_p0_kitchen_rules_seats), .int (Int32.ofInt i_p0_kitchen_rules_stirs), .ref a_p0_kitchen_rules_need, .ref a_p0_kitchen_rules_kind, .ref a_p0_kitchen_rules_first, .ref a_p0_kitchen_rules_second, .ref a_p0_kitchen_rules_after])), (a_p0_sums, .inl (G 1, 35, .inl (zA v_p0_sums))), (a_p0_row, .inl (G 1, 4, .inl (zA v_p0_row))), (a_p0_bestRow, .inl (G 1, 4, .inl (zA v_p0_bestRow)))] H → va_D A [(a_p0, .inr (1, [.ref a_p0_kitchen, .ref a_p0_pots, .ref a_p0_sums, .ref a_p0_kings, .ref a_p0_bones, .ref a_p0_row, .ref a_p0_bestRow, .int (Int32.ofInt i_p0_days), .int (Int32.ofInt i_p0_least)])), (a_p0_kitchen, .inr (2, [.ref a_p0_kitchen_rules, .ref a_p0_kitchen_state, .ref a_p0_kitchen_places, .ref a_p0_kitchen_holders, .ref a_p0_kitchen_stirred])), (a_p0_kitchen_rules, .inr (6, [.int (Int32.ofInt i_p0_kitchen_rules_seats), .int (Int32.ofInt i_p0_kitchen_rules_stirs), .ref a_p0_kitchen_rules_need, .ref a_p0_kitchen_rules_kind, .ref a_p0_kitchen_rules_first, .ref a_p0_kitchen_rules_second, .ref a_p0_kitchen_rules_after])), (a_p0_sums, .inl (G 1, 35, .inl (zA v_p0_sums))), (a_p0_row, .inl (G 1, 4, .inl (zA v_p0_row))), (a_p0_bestRow, .inl (G 1, 4, .inl (zA v_p0_bestRow)))] → va_S A s.heap H locs → J8  = some (o_i_p0_least, o_v_p0_bestRow) → W p l e rm_X1_weigh s m ([.ref a_p0] : List Value).toArray below meth c H locs 0 0 Q (F0 m 94 ls []) := by
      clear hf hl hP hD hS
      intro  ls H locs hl hP hD hS hf
      replace hf := jn0_s eJ8 hf
      refine lv_aload_n hx hb dX1_weigh_94 rfl (lv_at hl 2 rfl) ?_
      refine lv_iload_n hx hb dX1_weigh_95 rfl (lv_at hl 1 rfl) ?_
      refine lv_iload_n hx hb dX1_weigh_96 rfl (lv_at hl 0 rfl) ?_
      refine lv_isub hx hb dX1_weigh_97 (z_ci (Int32.ofInt_sub z4 z5) ?_)
      refine z_topi (fun z9 ez => ?_)
      replace hf := bnd_s hf ez
      clear ez
      refine va_put (D := D) (ci := 1) (v := .int (Int32.ofInt z9)) (ty := .int) (C := RX1) (T := TX1) (N := 9) hx hb hts inX1_weigh_X1 tyX1 tyX1_ok nmX1 hown hK hP hD hS 0 rfl rfl 8 (by decide) (hts _ mwX1_weigh_3) (fun _ h9 => h9) rfl (by decide +kernel) rfl rfl (Nat.le_of_ble_eq_true rfl) dX1_weigh_98 (fun H locs hP hD hS => ?_)
      have hP : va_P D vwCl [(a_p0, .inr (1, [.ref a_p0_kitchen, .ref a_p0_pots, .ref a_p0_sums, .ref a_p0_kings, .ref a_p0_bones, .ref a_p0_row, .ref a_p0_bestRow, .int (Int32.ofInt i_p0_days), .int (Int32.ofInt z9)])), (a_p0_kitchen, .inr (2, [.ref a_p0_kitchen_rules, .ref a_p0_kitchen_state, .ref a_p0_kitchen_places, .ref a_p0_kitchen_holders, .ref a_p0_kitchen_stirred])), (a_p0_kitchen_rules, .inr (6, [.int (Int32.ofInt i_p0_kitchen_rules_seats), .int (Int32.ofInt i_p0_kitchen_rules_stirs), .ref a_p0_kitchen_rules_need, .ref a_p0_kitchen_rules_kind, .ref a_p0_kitchen_rules_first, .ref a_p0_kitchen_rules_second, .ref a_p0_kitchen_rules_after])), (a_p0_sums, .inl (G 1, 35, .inl (zA v_p0_sums))), (a_p0_row, .inl (G 1, 4, .inl (zA v_p0_row))), (a_p0_bestRow, .inl (G 1, 4, .inl (zA v_p0_bestRow)))] H := hP
      have hD : va_D A [(a_p0, .inr (1, [.ref a_p0_kitchen, .ref a_p0_pots, .ref a_p0_sums, .ref a_p0_kings, .ref a_p0_bones, .ref a_p0_row, .ref a_p0_bestRow, .int (Int32.ofInt i_p0_days), .int (Int32.ofInt z9)])), (a_p0_kitchen, .inr (2, [.ref a_p0_kitchen_rules, .ref a_p0_kitchen_state, .ref a_p0_kitchen_places, .ref a_p0_kitchen_holders, .ref a_p0_kitchen_stirred])), (a_p0_kitchen_rules, .inr (6, [.int (Int32.ofInt i_p0_kitchen_rules_seats), .int (Int32.ofInt i_p0_kitchen_rules_stirs), .ref a_p0_kitchen_rules_need, .ref a_p0_kitchen_rules_kind, .ref a_p0_kitchen_rules_first, .ref a_p0_kitchen_rules_second, .ref a_p0_kitchen_rules_after])), (a_p0_sums, .inl (G 1, 35, .inl (zA v_p0_sums))), (a_p0_row, .inl (G 1, 4, .inl (zA v_p0_row))), (a_p0_bestRow, .inl (G 1, 4, .inl (zA v_p0_bestRow)))] := hD
      refine lv_aload_n hx hb dX1_weigh_101 rfl (lv_at hl 2 rfl) ?_
      refine va_get (D := D) (ci := 1) (v := .ref a_p0_row) (C := RX1) (T := TX1) (N := 9) hx hb hts inX1_weigh_X1 hown hK hP 0 rfl rfl 5 (by decide) (hts _ mwX1_weigh_4) (fun _ h9 => h9) rfl dX1_weigh_102 ?_
      refine lv_iconst (v := Int32.ofInt (0 : Int)) hx hb dX1_weigh_105 (by decide) ?_
      refine lv_aload_n hx hb dX1_weigh_106 rfl (lv_at hl 2 rfl) ?_
      refine va_get (D := D) (ci := 1) (v := .ref a_p0_bestRow) (C := RX1) (T := TX1) (N := 9) hx hb hts inX1_weigh_X1 hown hK hP 0 rfl rfl 6 (by decide) (hts _ mwX1_weigh_5) (fun _ h9 => h9) rfl dX1_weigh_107 ?_
      refine lv_iconst (v := Int32.ofInt (0 : Int)) hx hb dX1_weigh_110 (by decide) ?_
      refine lv_aload_n hx hb dX1_weigh_111 rfl (lv_at hl 2 rfl) ?_
      refine va_get (D := D) (ci := 1) (v := .int (Int32.ofInt i_p0_days)) (C := RX1) (T := TX1) (N := 9) hx hb hts inX1_weigh_X1 hown hK hP 0 rfl rfl 7 (by decide) (hts _ mwX1_weigh_2) (fun _ h9 => h9) rfl dX1_weigh_112 ?_
      have hc0 := ck_c hf
      have hc := z_cp_s hc0
      replace hf := ck_r hf
      have hc02 := ck_c hf
      have hc2 := z_cp_s hc02
      replace hf := ck_r hf
      refine va_copyi hx hb (by rw [hml]; exact hl.1.symm) hown (hts _ mwX1_weigh_6) (hts _ mwX1_weigh_7) (hts _ mwX1_weigh_8) (hts _ mwX1_weigh_9) hK hP hD hS 4 5 1 1 rfl rfl rfl rfl rfl hc.1 hc2.1 hc.2.1 hc.2.2 hc2.2.2 (fun _ _ => rfl) (Nat.le_of_ble_eq_true rfl) (Nat.le_of_ble_eq_true rfl) dX1_weigh_115 (fun H locs hP hD hS => ?_)
      obtain ⟨w10, ez⟩ : ∃ y : (Int → Int), y = (z_cpy v_p0_row v_p0_bestRow (0 : Int) (0 : Int) i_p0_days) := ⟨_, rfl⟩
      have hP : va_P D vwCl [(a_p0, .inr (1, [.ref a_p0_kitchen, .ref a_p0_pots, .ref a_p0_sums, .ref a_p0_kings, .ref a_p0_bones, .ref a_p0_row, .ref a_p0_bestRow, .int (Int32.ofInt i_p0_days), .int (Int32.ofInt z9)])), (a_p0_kitchen, .inr (2, [.ref a_p0_kitchen_rules, .ref a_p0_kitchen_state, .ref a_p0_kitchen_places, .ref a_p0_kitchen_holders, .ref a_p0_kitchen_stirred])), (a_p0_kitchen_rules, .inr (6, [.int (Int32.ofInt i_p0_kitchen_rules_seats), .int (Int32.ofInt i_p0_kitchen_rules_stirs), .ref a_p0_kitchen_rules_need, .ref a_p0_kitchen_rules_kind, .ref a_p0_kitchen_rules_first, .ref a_p0_kitchen_rules_second, .ref a_p0_kitchen_rules_after])), (a_p0_sums, .inl (G 1, 35, .inl (zA v_p0_sums))), (a_p0_row, .inl (G 1, 4, .inl (zA v_p0_row))), (a_p0_bestRow, .inl (G 1, 4, .inl (zA w10)))] H := by rw [ez, ← z_cpy_e hc0 hc02]; exact hP
      have hD : va_D A [(a_p0, .inr (1, [.ref a_p0_kitchen, .ref a_p0_pots, .ref a_p0_sums, .ref a_p0_kings, .ref a_p0_bones, .ref a_p0_row, .ref a_p0_bestRow, .int (Int32.ofInt i_p0_days), .int (Int32.ofInt z9)])), (a_p0_kitchen, .inr (2, [.ref a_p0_kitchen_rules, .ref a_p0_kitchen_state, .ref a_p0_kitchen_places, .ref a_p0_kitchen_holders, .ref a_p0_kitchen_stirred])), (a_p0_kitchen_rules, .inr (6, [.int (Int32.ofInt i_p0_kitchen_rules_seats), .int (Int32.ofInt i_p0_kitchen_rules_stirs), .ref a_p0_kitchen_rules_need, .ref a_p0_kitchen_rules_kind, .ref a_p0_kitchen_rules_first, .ref a_p0_kitchen_rules_second, .ref a_p0_kitchen_rules_after])), (a_p0_sums, .inl (G 1, 35, .inl (zA v_p0_sums))), (a_p0_row, .inl (G 1, 4, .inl (zA v_p0_row))), (a_p0_bestRow, .inl (G 1, 4, .inl (zA w10)))] := by rw [ez, ← z_cpy_e hc0 hc02]; exact hD
      replace hf := bnd_s hf ez
      clear ez hc hc2 hc0 hc02
      obtain ⟨rfl, rfl⟩ := ou2 hf
      rw [hQ]
      exact W.vret hx hb hr (fun t ht hW => ⟨⟨(), rfl, trivial, by rw [ht]; exact hP, va_K.moved hW.alike hK, hD⟩, hS.F ht⟩) hS.2.2 dX1_weigh_118
    refine lv_icmp_eq (tgt := 94) hx hb dX1_weigh_81 (by decide) (fun cc => ?_) (fun cc => ?_)
    ·
      replace hf := ite_t ((z_eq hr6 (by decide)).mp cc) hf
      clear cc
      exact hJ8  _ _ _ (lv_sub hl [0, 1, 2] rfl) hP hD hS hf
    ·
      replace hf := ite_f (fun h9 => cc ((z_eq hr6 (by decide)).mpr h9)) hf
      clear cc
      refine lv_iload_n hx hb dX1_weigh_84 rfl (lv_at hl 1 rfl) ?_
      refine lv_iload_n hx hb dX1_weigh_85 rfl (lv_at hl 0 rfl) ?_
      refine lv_isub hx hb dX1_weigh_86 (z_ci (Int32.ofInt_sub z4 z5) ?_)
      refine lv_aload_n hx hb dX1_weigh_87 rfl (lv_at hl 2 rfl) ?_
      refine va_get (D := D) (ci := 1) (v := .int (Int32.ofInt i_p0_least)) (C := RX1) (T := TX1) (N := 9) hx hb hts inX1_weigh_X1 hown hK hP 0 rfl rfl 8 (by decide) (hts _ mwX1_weigh_3) (fun _ h9 => h9) rfl dX1_weigh_88 ?_
      have hr10 := ck_c hf
      replace hf := ck_r hf
      refine lv_icmp_ge (tgt := 118) hx hb dX1_weigh_91 (by decide) (fun cc => ?_) (fun cc => ?_)
      ·
        replace hf := ite_t ((z_le hr6 hr10).mp cc) hf
        clear cc
        obtain ⟨rfl, rfl⟩ := ou2 hf
        rw [hQ]
        exact W.vret hx hb hr (fun t ht hW => ⟨⟨(), rfl, trivial, by rw [ht]; exact hP, va_K.moved hW.alike hK, hD⟩, hS.F ht⟩) hS.2.2 dX1_weigh_118
      ·
        replace hf := ite_f (fun h9 => cc ((z_le hr6 hr10).mpr h9)) hf
        clear cc
        exact hJ8  _ _ _ (lv_sub hl [0, 1, 2] rfl) hP hD hS hf
  have hq := lq3_i hf
  clear hf
  obtain ⟨B15, eB15, NB15, hf⟩ := hq
  have hB15 : ∀ (n : Nat) (z12 : Int) (z13 : Int) (z14 : Int) (ls : Array Slot) (H : Heap) (locs : List Loc), lv_has ls 4 [(3, .int (Int32.ofInt z12)), (2, .int (Int32.ofInt z13)), (1, .int (Int32.ofInt z14)), (0, .ref a_p0)] → va_P D vwCl [(a_p0, .inr (1, [.ref a_p0_kitchen, .ref a_p0_pots, .ref a_p0_sums, .ref a_p0_kings, .ref a_p0_bones, .ref a_p0_row, .ref a_p0_bestRow, .int (Int32.ofInt i_p0_days), .int (Int32.ofInt i_p0_least)])), (a_p0_kitchen, .inr (2, [.ref a_p0_kitchen_rules, .ref a_p0_kitchen_state, .ref a_p0_kitchen_places, .ref a_p0_kitchen_holders, .ref a_p0_kitchen_stirred])), (a_p0_kitchen_rules, .inr (6, [.int (Int32.ofInt i_p0_kitchen_rules_seats), .int (Int32.ofInt i_p0_kitchen_rules_stirs), .ref a_p0_kitchen_rules_need, .ref a_p0_kitchen_rules_kind, .ref a_p0_kitchen_rules_first, .ref a_p0_kitchen_rules_second, .ref a_p0_kitchen_rules_after])), (a_p0_sums, .inl (G 1, 35, .inl (zA v_p0_sums))), (a_p0_row, .inl (G 1, 4, .inl (zA v_p0_row))), (a_p0_bestRow, .inl (G 1, 4, .inl (zA v_p0_bestRow)))] H → va_D A [(a_p0, .inr (1, [.ref a_p0_kitchen, .ref a_p0_pots, .ref a_p0_sums, .ref a_p0_kings, .ref a_p0_bones, .ref a_p0_row, .ref a_p0_bestRow, .int (Int32.ofInt i_p0_days), .int (Int32.ofInt i_p0_least)])), (a_p0_kitchen, .inr (2, [.ref a_p0_kitchen_rules, .ref a_p0_kitchen_state, .ref a_p0_kitchen_places, .ref a_p0_kitchen_holders, .ref a_p0_kitchen_stirred])), (a_p0_kitchen_rules, .inr (6, [.int (Int32.ofInt i_p0_kitchen_rules_seats), .int (Int32.ofInt i_p0_kitchen_rules_stirs), .ref a_p0_kitchen_rules_need, .ref a_p0_kitchen_rules_kind, .ref a_p0_kitchen_rules_first, .ref a_p0_kitchen_rules_second, .ref a_p0_kitchen_rules_after])), (a_p0_sums, .inl (G 1, 35, .inl (zA v_p0_sums))), (a_p0_row, .inl (G 1, 4, .inl (zA v_p0_row))), (a_p0_bestRow, .inl (G 1, 4, .inl (zA v_p0_bestRow)))] → va_S A s.heap H locs → lq3 B15 n z12 z13 z14 = some (o_i_p0_least, o_v_p0_bestRow) → W p l e rm_X1_weigh s m ([.ref a_p0] : List Value).toArray below meth c H locs 0 0 Q (F0 m 17 ls []) := by
    clear hf hl hP hD hS
    intro n
    induction n with
    | zero =>
      intro z12 z13 z14 ls H locs hl hP hD hS hf
      exact (lq3_0 hf).elim
    | succ n ih17 =>
      intro z12 z13 z14 ls H locs hl hP hD hS hf
      replace hf := lq3_s eB15 hf
      unfold B_X1_weigh_17 at hf
      refine lv_iload_n hx hb dX1_weigh_17 rfl (lv_at hl 0 rfl) ?_
      refine lv_aload_n hx hb dX1_weigh_18 rfl (lv_at hl 3 rfl) ?_
      refine va_get (D := D) (ci := 1) (v := .ref a_p0_kitchen) (C := RX1) (T := TX1) (N := 9) hx hb hts inX1_weigh_X1 hown hK hP 0 rfl rfl 0 (by decide) (hts _ mwX1_weigh_10) (fun _ h9 => h9) rfl dX1_weigh_19 ?_
      refine va_get (D := D) (ci := 2) (v := .ref a_p0_kitchen_rules) (C := RX2) (T := TX2) (N := 5) hx hb hts inX1_weigh_X2 hown hK hP 1 rfl rfl 0 (by decide) (hts _ mwX1_weigh_12) (fun _ h9 => h9) rfl dX1_weigh_22 ?_
      refine va_get (D := D) (ci := 6) (v := .int (Int32.ofInt i_p0_kitchen_rules_seats)) (C := RX6) (T := TX6) (N := 7) hx hb hts inX1_weigh_X6 hown hK hP 2 rfl rfl 0 (by decide) (hts _ mwX1_weigh_14) (fun _ h9 => h9) rfl dX1_weigh_25 ?_
      have hr15 := ck_c hf
      replace hf := ck_r hf
      have hr16 := ck_c hf
      replace hf := ck_r hf
      refine lv_icmp_ge (tgt := 75) hx hb dX1_weigh_28 (by decide) (fun cc => ?_) (fun cc => ?_)
      ·
        replace hf := ite_t ((z_le hr16 hr15).mp cc) hf
        clear cc
        exact hJ6 _ _ _ _ _ (lv_sub hl [1, 2, 3] rfl) hP hD hS hf
      ·
        replace hf := ite_f (fun h9 => cc ((z_le hr16 hr15).mpr h9)) hf
        clear cc
        refine lv_iload_n hx hb dX1_weigh_31 rfl (lv_at hl 2 rfl) ?_
        refine lv_aload_n hx hb dX1_weigh_32 rfl (lv_at hl 3 rfl) ?_
        refine va_get (D := D) (ci := 1) (v := .ref a_p0_sums) (C := RX1) (T := TX1) (N := 9) hx hb hts inX1_weigh_X1 hown hK hP 0 rfl rfl 2 (by decide) (hts _ mwX1_weigh_1) (fun _ h9 => h9) rfl dX1_weigh_33 ?_
        refine lv_aload_n hx hb dX1_weigh_36 rfl (lv_at hl 3 rfl) ?_
        refine va_get (D := D) (ci := 1) (v := .int (Int32.ofInt i_p0_days)) (C := RX1) (T := TX1) (N := 9) hx hb hts inX1_weigh_X1 hown hK hP 0 rfl rfl 7 (by decide) (hts _ mwX1_weigh_2) (fun _ h9 => h9) rfl dX1_weigh_37 ?_
        refine lv_bipush (v := Int32.ofInt (7 : Int)) hx hb dX1_weigh_40 (by decide) ?_
        refine lv_imul hx hb dX1_weigh_42 (z_ci (Int32.ofInt_mul i_p0_days (7 : Int)) ?_)
        refine lv_iload_n hx hb dX1_weigh_43 rfl (lv_at hl 0 rfl) ?_
        refine lv_iadd hx hb dX1_weigh_44 (z_ci (Int32.ofInt_add (i_p0_days * (7 : Int)) z12) ?_)
        have hc := ck_c hf
        replace hf := ck_r hf
        refine va_iald hx hb hK hP 3 1 rfl rfl (z_ix_in hc) dX1_weigh_45 (z_ci (z_ald v_p0_sums hc) ?_)
        clear hc
        have hr17 := ck_c hf
        replace hf := ck_r hf
        have hr18 := ck_c hf
        replace hf := ck_r hf
        refine va_mmax hx hb (by rw [hml]; exact hl.1.symm) hown (hts _ mwX1_weigh_15) (hts _ mwX1_weigh_16) (hts _ mwX1_weigh_17) (hts _ mwX1_weigh_18) (Nat.le_of_ble_eq_true rfl) (Nat.le_of_ble_eq_true rfl) (Nat.le_of_ble_eq_true rfl) (Nat.le_of_ble_eq_true rfl) dX1_weigh_46 (z_ci (z_max hr17 hr18) ?_)
        refine z_topi (fun z20 ez => ?_)
        replace hf := bnd_s hf ez
        clear ez
        refine lv_istore_n (lv' := [(1, .int (Int32.ofInt z20)), (3, .int (Int32.ofInt z12)), (2, .int (Int32.ofInt z13)), (0, .ref a_p0)]) hx hb dX1_weigh_49 rfl hl (by decide) rfl (fun ls hl => ?_)
        refine lv_iload_n hx hb dX1_weigh_50 rfl (lv_at hl 2 rfl) ?_
        refine lv_aload_n hx hb dX1_weigh_51 rfl (lv_at hl 3 rfl) ?_
        refine va_get (D := D) (ci := 1) (v := .ref a_p0_sums) (C := RX1) (T := TX1) (N := 9) hx hb hts inX1_weigh_X1 hown hK hP 0 rfl rfl 2 (by decide) (hts _ mwX1_weigh_1) (fun _ h9 => h9) rfl dX1_weigh_52 ?_
        refine lv_aload_n hx hb dX1_weigh_55 rfl (lv_at hl 3 rfl) ?_
        refine va_get (D := D) (ci := 1) (v := .int (Int32.ofInt i_p0_days)) (C := RX1) (T := TX1) (N := 9) hx hb hts inX1_weigh_X1 hown hK hP 0 rfl rfl 7 (by decide) (hts _ mwX1_weigh_2) (fun _ h9 => h9) rfl dX1_weigh_56 ?_
        refine lv_bipush (v := Int32.ofInt (7 : Int)) hx hb dX1_weigh_59 (by decide) ?_
        refine lv_imul hx hb dX1_weigh_61 (z_ci (Int32.ofInt_mul i_p0_days (7 : Int)) ?_)
        refine lv_iload_n hx hb dX1_weigh_62 rfl (lv_at hl 1 rfl) ?_
        refine lv_iadd hx hb dX1_weigh_63 (z_ci (Int32.ofInt_add (i_p0_days * (7 : Int)) z12) ?_)
        have hc := ck_c hf
        replace hf := ck_r hf
        refine va_iald hx hb hK hP 3 1 rfl rfl (z_ix_in hc) dX1_weigh_64 (z_ci (z_ald v_p0_sums hc) ?_)
        clear hc
        have hr20 := ck_c hf
        replace hf := ck_r hf
        refine va_mmin hx hb (by rw [hml]; exact hl.1.symm) hown (hts _ mwX1_weigh_19) (hts _ mwX1_weigh_20) (hts _ mwX1_weigh_17) (hts _ mwX1_weigh_21) (Nat.le_of_ble_eq_true rfl) (Nat.le_of_ble_eq_true rfl) (Nat.le_of_ble_eq_true rfl) (Nat.le_of_ble_eq_true rfl) dX1_weigh_65 (z_ci (z_min hr20 hr18) ?_)
        refine z_topi (fun z22 ez => ?_)
        replace hf := bnd_s hf ez
        clear ez
        refine lv_istore_n (lv' := [(2, .int (Int32.ofInt z22)), (1, .int (Int32.ofInt z20)), (3, .int (Int32.ofInt z12)), (0, .ref a_p0)]) hx hb dX1_weigh_68 rfl hl (by decide) rfl (fun ls hl => ?_)
        obtain ⟨z23, ez⟩ : ∃ y : Int, y = (z12 + (1 : Int)) := ⟨_, rfl⟩
        replace hf := bnd_s hf ez
        refine lv_iinc (v := Int32.ofInt z23) (lv' := [(3, .int (Int32.ofInt z23)), (2, .int (Int32.ofInt z22)), (1, .int (Int32.ofInt z20)), (0, .ref a_p0)]) hx hb dX1_weigh_69 hl (k := 2) rfl (by rw [ez]; exact (Int32.ofInt_add _ _).symm) (by decide) rfl (fun ls hl => ?_)
        clear ez
        refine lv_goto (tgt := 17) hx hb dX1_weigh_72 (by decide) ?_
        exact ih17 _ _ _ _ _ _ (lv_sub hl [0, 1, 2, 3] rfl) hP hD hS hf
  exact hB15 _ _ _ _ _ _ _ (lv_sub hl [0, 1, 2, 3] rfl) hP hD hS hf

noncomputable def B_X1_nextRow_7 (i_p0_kitchen_rules_stirs : Int) (J4 : Int → (Int → Int) → Option (Int × (Int → Int))) (again7 : Int → (Int → Int) → Option (Int × (Int → Int))) (z6 : Int) (w7 : (Int → Int)) : Option (Int × (Int → Int)) := (ck (z_r32 z6) (if z6 < (0 : Int) then (some ((-4 : Int), w7)) else (ck (z_ix z6 4) (ck (z_r32 ((w7 z6) + (1 : Int))) (ck (z_r32 i_p0_kitchen_rules_stirs) (if i_p0_kitchen_rules_stirs ≤ ((w7 z6) + (1 : Int)) then (ck (z_ix z6 4) (bnd (z_up w7 z6 (0 : Int)) (fun (w12 : (Int → Int)) => (bnd (z6 + (-1 : Int)) (fun (z13 : Int) => (again7 z13 w12)))))) else (J4 z6 w7)))))))
noncomputable def f_X1_nextRow (i_p0_days : Int) (i_p0_kitchen_rules_stirs : Int) (v_p0_row : (Int → Int)) : Option (Int × (Int → Int)) := (bnd (i_p0_days - (1 : Int)) (fun (z1 : Int) => (jn (fun (z2 : Int) (w3 : (Int → Int)) => (ck (z_ix z2 4) (ck (z_ix z2 4) (bnd (z_up w3 z2 ((w3 z2) + (1 : Int))) (fun (w5 : (Int → Int)) => (some (z2, w5))))))) (fun (J4 : Int → (Int → Int) → Option (Int × (Int → Int))) => (lq2 (B_X1_nextRow_7 i_p0_kitchen_rules_stirs J4) 1000 z1 v_p0_row)))))
abbrev rm_X1_nextRow : Room := { frames := 0, cells := 0, slots := 0, locals := 0 }
theorem inX1_nextRow_X1 : ∀ w ∈ wsX10, w ∈ wsX1_nextRow := by first | exact fun w h => List.mem_cons_of_mem _ (List.mem_append_left _ (List.mem_append_left _ (List.mem_append_right _ h))) | decide +kernel
theorem mwX1_nextRow_1 : Cond.fieldLink RX1 30 "LadleKings$FairDays" "days" "I" ∈ wsX1_nextRow := by first | exact List.mem_of_getElem? (i := 1) rfl | decide +kernel
theorem mwX1_nextRow_2 : Cond.fieldLink RX1 24 "LadleKings$FairDays" "row" "[I" ∈ wsX1_nextRow := by first | exact List.mem_of_getElem? (i := 2) rfl | decide +kernel
theorem mwX1_nextRow_3 : Cond.fieldLink RX1 37 "LadleKings$FairDays" "kitchen" "LLadleKings$Kitchen;" ∈ wsX1_nextRow := by first | exact List.mem_of_getElem? (i := 3) rfl | decide +kernel
theorem inX1_nextRow_X2 : ∀ w ∈ wsX20, w ∈ wsX1_nextRow := by first | exact fun w h => List.mem_cons_of_mem _ (List.mem_append_left _ (List.mem_append_right _ h)) | decide +kernel
theorem mwX1_nextRow_5 : Cond.fieldLink RX1 75 "LadleKings$Kitchen" "rules" "LLadleKings$Rules;" ∈ wsX1_nextRow := by first | exact List.mem_of_getElem? (i := 4) rfl | decide +kernel
theorem inX1_nextRow_X6 : ∀ w ∈ wsX60, w ∈ wsX1_nextRow := by first | exact fun w h => List.mem_cons_of_mem _ (List.mem_append_right _ h) | decide +kernel
theorem mwX1_nextRow_7 : Cond.fieldLink RX1 114 "LadleKings$Rules" "stirs" "I" ∈ wsX1_nextRow := by first | exact List.mem_of_getElem? (i := 5) rfl | decide +kernel
set_option maxHeartbeats 8000000 in
set_option maxRecDepth 100000 in
theorem c_X1_nextRow (l : Launch) (D : va_G) (G : Nat → ClassId) (sz : Nat) (a_p0 : Nat) (a_p0_kitchen : Nat) (a_p0_pots : Nat) (a_p0_sums : Nat) (a_p0_kings : Nat) (a_p0_bones : Nat) (a_p0_row : Nat) (a_p0_bestRow : Nat) (a_p0_kitchen_rules : Nat) (a_p0_kitchen_state : Nat) (a_p0_kitchen_places : Nat) (a_p0_kitchen_holders : Nat) (a_p0_kitchen_stirred : Nat) (a_p0_kitchen_rules_need : Nat) (a_p0_kitchen_rules_kind : Nat) (a_p0_kitchen_rules_first : Nat) (a_p0_kitchen_rules_second : Nat) (a_p0_kitchen_rules_after : Nat) (i_p0_days : Int) (i_p0_least : Int) (i_p0_kitchen_rules_seats : Int) (i_p0_kitchen_rules_stirs : Int) (v_p0_row : (Int → Int)) (r : Int) (o_v_p0_row : (Int → Int)) (hf : f_X1_nextRow i_p0_days i_p0_kitchen_rules_stirs v_p0_row = some (r, o_v_p0_row)) : Met l yX1_nextRow wsX1_nextRow rm_X1_nextRow (pcG D G [.ref a_p0] sz [(a_p0, .inr (1, [.ref a_p0_kitchen, .ref a_p0_pots, .ref a_p0_sums, .ref a_p0_kings, .ref a_p0_bones, .ref a_p0_row, .ref a_p0_bestRow, .int (Int32.ofInt i_p0_days), .int (Int32.ofInt i_p0_least)])), (a_p0_kitchen, .inr (2, [.ref a_p0_kitchen_rules, .ref a_p0_kitchen_state, .ref a_p0_kitchen_places, .ref a_p0_kitchen_holders, .ref a_p0_kitchen_stirred])), (a_p0_kitchen_rules, .inr (6, [.int (Int32.ofInt i_p0_kitchen_rules_seats), .int (Int32.ofInt i_p0_kitchen_rules_stirs), .ref a_p0_kitchen_rules_need, .ref a_p0_kitchen_rules_kind, .ref a_p0_kitchen_rules_first, .ref a_p0_kitchen_rules_second, .ref a_p0_kitchen_rules_after])), (a_p0_row, .inl (G 1, 4, .inl (zA v_p0_row)))]) (qcI D G (Int32.ofInt r) [(a_p0, .inr (1, [.ref a_p0_kitchen, .ref a_p0_pots, .ref a_p0_sums, .ref a_p0_kings, .ref a_p0_bones, .ref a_p0_row, .ref a_p0_bestRow, .int (Int32.ofInt i_p0_days), .int (Int32.ofInt i_p0_least)])), (a_p0_kitchen, .inr (2, [.ref a_p0_kitchen_rules, .ref a_p0_kitchen_state, .ref a_p0_kitchen_places, .ref a_p0_kitchen_holders, .ref a_p0_kitchen_stirred])), (a_p0_kitchen_rules, .inr (6, [.int (Int32.ofInt i_p0_kitchen_rules_seats), .int (Int32.ofInt i_p0_kitchen_rules_stirs), .ref a_p0_kitchen_rules_need, .ref a_p0_kitchen_rules_kind, .ref a_p0_kitchen_rules_first, .ref a_p0_kitchen_rules_second, .ref a_p0_kitchen_rules_after])), (a_p0_row, .inl (G 1, 4, .inl (zA o_v_p0_row)))] (va_A [(a_p0, .inr (1, [.ref a_p0_kitchen, .ref a_p0_pots, .ref a_p0_sums, .ref a_p0_kings, .ref a_p0_bones, .ref a_p0_row, .ref a_p0_bestRow, .int (Int32.ofInt i_p0_days), .int (Int32.ofInt i_p0_least)])), (a_p0_kitchen, .inr (2, [.ref a_p0_kitchen_rules, .ref a_p0_kitchen_state, .ref a_p0_kitchen_places, .ref a_p0_kitchen_holders, .ref a_p0_kitchen_stirred])), (a_p0_kitchen_rules, .inr (6, [.int (Int32.ofInt i_p0_kitchen_rules_seats), .int (Int32.ofInt i_p0_kitchen_rules_stirs), .ref a_p0_kitchen_rules_need, .ref a_p0_kitchen_rules_kind, .ref a_p0_kitchen_rules_first, .ref a_p0_kitchen_rules_second, .ref a_p0_kitchen_rules_after])), (a_p0_row, .inl (G 1, 4, .inl (zA v_p0_row)))] sz)) 0 0 (va_A [(a_p0, .inr (1, [.ref a_p0_kitchen, .ref a_p0_pots, .ref a_p0_sums, .ref a_p0_kings, .ref a_p0_bones, .ref a_p0_row, .ref a_p0_bestRow, .int (Int32.ofInt i_p0_days), .int (Int32.ofInt i_p0_least)])), (a_p0_kitchen, .inr (2, [.ref a_p0_kitchen_rules, .ref a_p0_kitchen_state, .ref a_p0_kitchen_places, .ref a_p0_kitchen_holders, .ref a_p0_kitchen_stirred])), (a_p0_kitchen_rules, .inr (6, [.int (Int32.ofInt i_p0_kitchen_rules_seats), .int (Int32.ofInt i_p0_kitchen_rules_stirs), .ref a_p0_kitchen_rules_need, .ref a_p0_kitchen_rules_kind, .ref a_p0_kitchen_rules_first, .ref a_p0_kitchen_rules_second, .ref a_p0_kitchen_rules_after])), (a_p0_row, .inl (G 1, 4, .inl (zA v_p0_row)))] sz) := by
  refine Met.ofW (cc := cX1_nextRow) (maxL := 2) (ret := (some .int)) (by decide) rfl ?_
  intro p e s m args below meth c s₁ B hml hv
  obtain ⟨rfl, hsz, hP, hK, hD0⟩ := hv
  have hx := B.exec
  have hb := B.bytes
  have hr := B.returns
  have hts := atoms_spec (ws := wsX1_nextRow) B.pre
  have hown : s.vm.findClass RX1 = some m.cls := findClass_of_methodNamed B.named
  have hlocks := B.notSynchronized
  subst hsz
  have hD := hD0.self (sz := s.heap.size)
  generalize hAe : va_A [(a_p0, .inr (1, [.ref a_p0_kitchen, .ref a_p0_pots, .ref a_p0_sums, .ref a_p0_kings, .ref a_p0_bones, .ref a_p0_row, .ref a_p0_bestRow, .int (Int32.ofInt i_p0_days), .int (Int32.ofInt i_p0_least)])), (a_p0_kitchen, .inr (2, [.ref a_p0_kitchen_rules, .ref a_p0_kitchen_state, .ref a_p0_kitchen_places, .ref a_p0_kitchen_holders, .ref a_p0_kitchen_stirred])), (a_p0_kitchen_rules, .inr (6, [.int (Int32.ofInt i_p0_kitchen_rules_seats), .int (Int32.ofInt i_p0_kitchen_rules_stirs), .ref a_p0_kitchen_rules_need, .ref a_p0_kitchen_rules_kind, .ref a_p0_kitchen_rules_first, .ref a_p0_kitchen_rules_second, .ref a_p0_kitchen_rules_after])), (a_p0_row, .inl (G 1, 4, .inl (zA v_p0_row)))] s.heap.size = A at hD ⊢
  have hA : ∀ q : Nat, s.heap.size ≤ q → A q := fun q h => by rw [← hAe]; exact Or.inr h
  clear hAe hD0
  have hS : va_S A s.heap s.heap [] := va_S.rf
  have hl := lv_entry ([.ref a_p0]) (n := 2) (Nat.le_of_ble_eq_true rfl)
  rw [lg_entry_eq]
  generalize (lg_sl ([.ref a_p0]) ++ List.replicate (2 - (lg_sl ([.ref a_p0])).length) Slot.unset).toArray = ls at hl ⊢
  have hl : lv_has ls 2 [(0, .ref a_p0)] := hl
  refine W_nameQ (fun Q hQ => ?_)
  obtain ⟨H, hH⟩ : ∃ H, H = s.heap := ⟨_, rfl⟩
  replace hS : va_S A s.heap H [] := by rw [hH]; exact hS
  replace hP : va_P D vwCl [(a_p0, .inr (1, [.ref a_p0_kitchen, .ref a_p0_pots, .ref a_p0_sums, .ref a_p0_kings, .ref a_p0_bones, .ref a_p0_row, .ref a_p0_bestRow, .int (Int32.ofInt i_p0_days), .int (Int32.ofInt i_p0_least)])), (a_p0_kitchen, .inr (2, [.ref a_p0_kitchen_rules, .ref a_p0_kitchen_state, .ref a_p0_kitchen_places, .ref a_p0_kitchen_holders, .ref a_p0_kitchen_stirred])), (a_p0_kitchen_rules, .inr (6, [.int (Int32.ofInt i_p0_kitchen_rules_seats), .int (Int32.ofInt i_p0_kitchen_rules_stirs), .ref a_p0_kitchen_rules_need, .ref a_p0_kitchen_rules_kind, .ref a_p0_kitchen_rules_first, .ref a_p0_kitchen_rules_second, .ref a_p0_kitchen_rules_after])), (a_p0_row, .inl (G 1, 4, .inl (zA v_p0_row)))] H := by rw [hH]; exact hP
  rw [← hH]
  clear hH
  unfold f_X1_nextRow at hf
  refine lv_aload_n hx hb dX1_nextRow_0 rfl (lv_at hl 0 rfl) ?_
  refine va_get (D := D) (ci := 1) (v := .int (Int32.ofInt i_p0_days)) (C := RX1) (T := TX1) (N := 9) hx hb hts inX1_nextRow_X1 hown hK hP 0 rfl rfl 7 (by decide) (hts _ mwX1_nextRow_1) (fun _ h9 => h9) rfl dX1_nextRow_1 ?_
  refine lv_iconst (v := Int32.ofInt (1 : Int)) hx hb dX1_nextRow_4 (by decide) ?_
  refine lv_isub hx hb dX1_nextRow_5 (z_ci (Int32.ofInt_sub i_p0_days (1 : Int)) ?_)
  refine z_topi (fun z1 ez => ?_)
  replace hf := bnd_s hf ez
  clear ez
  refine lv_istore_n (lv' := [(1, .int (Int32.ofInt z1)), (0, .ref a_p0)]) hx hb dX1_nextRow_6 rfl hl (by decide) rfl (fun ls hl => ?_)
  have hq := jn_i hf
  clear hf
  obtain ⟨J4, eJ4, hf⟩ := hq
  have hJ4 : ∀ (z2 : Int) (w3 : (Int → Int)) (ls : Array Slot) (H : Heap) (locs : List Loc), lv_has ls 2 [(1, .int (Int32.ofInt z2)), (0, .ref a_p0)] → va_P D vwCl [(a_p0, .inr (1, [.ref a_p0_kitchen, .ref a_p0_pots, .ref a_p0_sums, .ref a_p0_kings, .ref a_p0_bones, .ref a_p0_row, .ref a_p0_bestRow, .int (Int32.ofInt i_p0_days), .int (Int32.ofInt i_p0_least)])), (a_p0_kitchen, .inr (2, [.ref a_p0_kitchen_rules, .ref a_p0_kitchen_state, .ref a_p0_kitchen_places, .ref a_p0_kitchen_holders, .ref a_p0_kitchen_stirred])), (a_p0_kitchen_rules, .inr (6, [.int (Int32.ofInt i_p0_kitchen_rules_seats), .int (Int32.ofInt i_p0_kitchen_rules_stirs), .ref a_p0_kitchen_rules_need, .ref a_p0_kitchen_rules_kind, .ref a_p0_kitchen_rules_first, .ref a_p0_kitchen_rules_second, .ref a_p0_kitchen_rules_after])), (a_p0_row, .inl (G 1, 4, .inl (zA w3)))] H → va_D A [(a_p0, .inr (1, [.ref a_p0_kitchen, .ref a_p0_pots, .ref a_p0_sums, .ref a_p0_kings, .ref a_p0_bones, .ref a_p0_row, .ref a_p0_bestRow, .int (Int32.ofInt i_p0_days), .int (Int32.ofInt i_p0_least)])), (a_p0_kitchen, .inr (2, [.ref a_p0_kitchen_rules, .ref a_p0_kitchen_state, .ref a_p0_kitchen_places, .ref a_p0_kitchen_holders, .ref a_p0_kitchen_stirred])), (a_p0_kitchen_rules, .inr (6, [.int (Int32.ofInt i_p0_kitchen_rules_seats), .int (Int32.ofInt i_p0_kitchen_rules_stirs), .ref a_p0_kitchen_rules_need, .ref a_p0_kitchen_rules_kind, .ref a_p0_kitchen_rules_first, .ref a_p0_kitchen_rules_second, .ref a_p0_kitchen_rules_after])), (a_p0_row, .inl (G 1, 4, .inl (zA w3)))] → va_S A s.heap H locs → J4 z2 w3 = some (r, o_v_p0_row) → W p l e rm_X1_nextRow s m ([.ref a_p0] : List Value).toArray below meth c H locs 0 0 Q (F0 m 32 ls []) := by
    clear hf hl hP hD hS
    intro z2 w3 ls H locs hl hP hD hS hf
    replace hf := jn2_s eJ4 hf
    refine lv_aload_n hx hb dX1_nextRow_32 rfl (lv_at hl 1 rfl) ?_
    refine va_get (D := D) (ci := 1) (v := .ref a_p0_row) (C := RX1) (T := TX1) (N := 9) hx hb hts inX1_nextRow_X1 hown hK hP 0 rfl rfl 5 (by decide) (hts _ mwX1_nextRow_2) (fun _ h9 => h9) rfl dX1_nextRow_33 ?_
    refine lv_iload_n hx hb dX1_nextRow_36 rfl (lv_at hl 0 rfl) ?_
    refine lv_dup2_11 hx hb dX1_nextRow_37 rfl rfl ?_
    have hc := ck_c hf
    replace hf := ck_r hf
    refine va_iald hx hb hK hP 3 1 rfl rfl (z_ix_in hc) dX1_nextRow_38 (z_ci (z_ald w3 hc) ?_)
    clear hc
    refine lv_iconst (v := Int32.ofInt (1 : Int)) hx hb dX1_nextRow_39 (by decide) ?_
    refine lv_iadd hx hb dX1_nextRow_40 (z_ci (Int32.ofInt_add (w3 z2) (1 : Int)) ?_)
    have hc := ck_c hf
    replace hf := ck_r hf
    refine zs_iast (wf := fun w5 => [(a_p0, .inr (1, [.ref a_p0_kitchen, .ref a_p0_pots, .ref a_p0_sums, .ref a_p0_kings, .ref a_p0_bones, .ref a_p0_row, .ref a_p0_bestRow, .int (Int32.ofInt i_p0_days), .int (Int32.ofInt i_p0_least)])), (a_p0_kitchen, .inr (2, [.ref a_p0_kitchen_rules, .ref a_p0_kitchen_state, .ref a_p0_kitchen_places, .ref a_p0_kitchen_holders, .ref a_p0_kitchen_stirred])), (a_p0_kitchen_rules, .inr (6, [.int (Int32.ofInt i_p0_kitchen_rules_seats), .int (Int32.ofInt i_p0_kitchen_rules_stirs), .ref a_p0_kitchen_rules_need, .ref a_p0_kitchen_rules_kind, .ref a_p0_kitchen_rules_first, .ref a_p0_kitchen_rules_second, .ref a_p0_kitchen_rules_after])), (a_p0_row, .inl (G 1, 4, .inl (zA w5)))]) hx hb hK hP hD hS 3 1 rfl rfl hc dX1_nextRow_41 (fun _ => rfl) (fun w5 ez H locs hP hD hS => ?_)
    replace hf := bnd_s hf ez
    clear ez hc
    refine lv_iload_n hx hb dX1_nextRow_42 rfl (lv_at hl 0 rfl) ?_
    obtain ⟨rfl, rfl⟩ := ou2 hf
    rw [hQ]
    exact W.iret hx hb hr (fun t ht hW => ⟨⟨_, (), rfl, rfl, by rw [ht]; exact hP, va_K.moved hW.alike hK, hD⟩, hS.F ht⟩) hS.2.2 dX1_nextRow_43
  have hq := lq2_i hf
  clear hf
  obtain ⟨B8, eB8, NB8, hf⟩ := hq
  have hB8 : ∀ (n : Nat) (z6 : Int) (w7 : (Int → Int)) (ls : Array Slot) (H : Heap) (locs : List Loc), lv_has ls 2 [(1, .int (Int32.ofInt z6)), (0, .ref a_p0)] → va_P D vwCl [(a_p0, .inr (1, [.ref a_p0_kitchen, .ref a_p0_pots, .ref a_p0_sums, .ref a_p0_kings, .ref a_p0_bones, .ref a_p0_row, .ref a_p0_bestRow, .int (Int32.ofInt i_p0_days), .int (Int32.ofInt i_p0_least)])), (a_p0_kitchen, .inr (2, [.ref a_p0_kitchen_rules, .ref a_p0_kitchen_state, .ref a_p0_kitchen_places, .ref a_p0_kitchen_holders, .ref a_p0_kitchen_stirred])), (a_p0_kitchen_rules, .inr (6, [.int (Int32.ofInt i_p0_kitchen_rules_seats), .int (Int32.ofInt i_p0_kitchen_rules_stirs), .ref a_p0_kitchen_rules_need, .ref a_p0_kitchen_rules_kind, .ref a_p0_kitchen_rules_first, .ref a_p0_kitchen_rules_second, .ref a_p0_kitchen_rules_after])), (a_p0_row, .inl (G 1, 4, .inl (zA w7)))] H → va_D A [(a_p0, .inr (1, [.ref a_p0_kitchen, .ref a_p0_pots, .ref a_p0_sums, .ref a_p0_kings, .ref a_p0_bones, .ref a_p0_row, .ref a_p0_bestRow, .int (Int32.ofInt i_p0_days), .int (Int32.ofInt i_p0_least)])), (a_p0_kitchen, .inr (2, [.ref a_p0_kitchen_rules, .ref a_p0_kitchen_state, .ref a_p0_kitchen_places, .ref a_p0_kitchen_holders, .ref a_p0_kitchen_stirred])), (a_p0_kitchen_rules, .inr (6, [.int (Int32.ofInt i_p0_kitchen_rules_seats), .int (Int32.ofInt i_p0_kitchen_rules_stirs), .ref a_p0_kitchen_rules_need, .ref a_p0_kitchen_rules_kind, .ref a_p0_kitchen_rules_first, .ref a_p0_kitchen_rules_second, .ref a_p0_kitchen_rules_after])), (a_p0_row, .inl (G 1, 4, .inl (zA w7)))] → va_S A s.heap H locs → lq2 B8 n z6 w7 = some (r, o_v_p0_row) → W p l e rm_X1_nextRow s m ([.ref a_p0] : List Value).toArray below meth c H locs 0 0 Q (F0 m 7 ls []) := by
    clear hf hl hP hD hS
    intro n
    induction n with
    | zero =>
      intro z6 w7 ls H locs hl hP hD hS hf
      exact (lq2_0 hf).elim
    | succ n ih7 =>
      intro z6 w7 ls H locs hl hP hD hS hf
      replace hf := lq2_s eB8 hf
      unfold B_X1_nextRow_7 at hf
      refine lv_iload_n hx hb dX1_nextRow_7 rfl (lv_at hl 0 rfl) ?_
      have hr8 := ck_c hf
      replace hf := ck_r hf
      refine lv_if_lt (tgt := 57) hx hb dX1_nextRow_8 (by decide) (fun cc => ?_) (fun cc => ?_)
      ·
        replace hf := ite_t ((z_lt0 hr8).mp cc) hf
        clear cc
        refine lv_bipush (v := Int32.ofInt (-4 : Int)) hx hb dX1_nextRow_57 (by decide) ?_
        obtain ⟨rfl, rfl⟩ := ou2 hf
        rw [hQ]
        exact W.iret hx hb hr (fun t ht hW => ⟨⟨_, (), rfl, rfl, by rw [ht]; exact hP, va_K.moved hW.alike hK, hD⟩, hS.F ht⟩) hS.2.2 dX1_nextRow_59
      ·
        replace hf := ite_f (fun h9 => cc ((z_lt0 hr8).mpr h9)) hf
        clear cc
        refine lv_aload_n hx hb dX1_nextRow_11 rfl (lv_at hl 1 rfl) ?_
        refine va_get (D := D) (ci := 1) (v := .ref a_p0_row) (C := RX1) (T := TX1) (N := 9) hx hb hts inX1_nextRow_X1 hown hK hP 0 rfl rfl 5 (by decide) (hts _ mwX1_nextRow_2) (fun _ h9 => h9) rfl dX1_nextRow_12 ?_
        refine lv_iload_n hx hb dX1_nextRow_15 rfl (lv_at hl 0 rfl) ?_
        have hc := ck_c hf
        replace hf := ck_r hf
        refine va_iald hx hb hK hP 3 1 rfl rfl (z_ix_in hc) dX1_nextRow_16 (z_ci (z_ald w7 hc) ?_)
        clear hc
        refine lv_iconst (v := Int32.ofInt (1 : Int)) hx hb dX1_nextRow_17 (by decide) ?_
        refine lv_iadd hx hb dX1_nextRow_18 (z_ci (Int32.ofInt_add (w7 z6) (1 : Int)) ?_)
        refine lv_aload_n hx hb dX1_nextRow_19 rfl (lv_at hl 1 rfl) ?_
        refine va_get (D := D) (ci := 1) (v := .ref a_p0_kitchen) (C := RX1) (T := TX1) (N := 9) hx hb hts inX1_nextRow_X1 hown hK hP 0 rfl rfl 0 (by decide) (hts _ mwX1_nextRow_3) (fun _ h9 => h9) rfl dX1_nextRow_20 ?_
        refine va_get (D := D) (ci := 2) (v := .ref a_p0_kitchen_rules) (C := RX2) (T := TX2) (N := 5) hx hb hts inX1_nextRow_X2 hown hK hP 1 rfl rfl 0 (by decide) (hts _ mwX1_nextRow_5) (fun _ h9 => h9) rfl dX1_nextRow_23 ?_
        refine va_get (D := D) (ci := 6) (v := .int (Int32.ofInt i_p0_kitchen_rules_stirs)) (C := RX6) (T := TX6) (N := 7) hx hb hts inX1_nextRow_X6 hown hK hP 2 rfl rfl 1 (by decide) (hts _ mwX1_nextRow_7) (fun _ h9 => h9) rfl dX1_nextRow_26 ?_
        have hr9 := ck_c hf
        replace hf := ck_r hf
        have hr10 := ck_c hf
        replace hf := ck_r hf
        refine lv_icmp_ge (tgt := 44) hx hb dX1_nextRow_29 (by decide) (fun cc => ?_) (fun cc => ?_)
        ·
          replace hf := ite_t ((z_le hr10 hr9).mp cc) hf
          clear cc
          refine lv_aload_n hx hb dX1_nextRow_44 rfl (lv_at hl 1 rfl) ?_
          refine va_get (D := D) (ci := 1) (v := .ref a_p0_row) (C := RX1) (T := TX1) (N := 9) hx hb hts inX1_nextRow_X1 hown hK hP 0 rfl rfl 5 (by decide) (hts _ mwX1_nextRow_2) (fun _ h9 => h9) rfl dX1_nextRow_45 ?_
          refine lv_iload_n hx hb dX1_nextRow_48 rfl (lv_at hl 0 rfl) ?_
          refine lv_iconst (v := Int32.ofInt (0 : Int)) hx hb dX1_nextRow_49 (by decide) ?_
          have hc := ck_c hf
          replace hf := ck_r hf
          refine zs_iast (wf := fun w12 => [(a_p0, .inr (1, [.ref a_p0_kitchen, .ref a_p0_pots, .ref a_p0_sums, .ref a_p0_kings, .ref a_p0_bones, .ref a_p0_row, .ref a_p0_bestRow, .int (Int32.ofInt i_p0_days), .int (Int32.ofInt i_p0_least)])), (a_p0_kitchen, .inr (2, [.ref a_p0_kitchen_rules, .ref a_p0_kitchen_state, .ref a_p0_kitchen_places, .ref a_p0_kitchen_holders, .ref a_p0_kitchen_stirred])), (a_p0_kitchen_rules, .inr (6, [.int (Int32.ofInt i_p0_kitchen_rules_seats), .int (Int32.ofInt i_p0_kitchen_rules_stirs), .ref a_p0_kitchen_rules_need, .ref a_p0_kitchen_rules_kind, .ref a_p0_kitchen_rules_first, .ref a_p0_kitchen_rules_second, .ref a_p0_kitchen_rules_after])), (a_p0_row, .inl (G 1, 4, .inl (zA w12)))]) hx hb hK hP hD hS 3 1 rfl rfl hc dX1_nextRow_50 (fun _ => rfl) (fun w12 ez H locs hP hD hS => ?_)
          replace hf := bnd_s hf ez
          clear ez hc
          obtain ⟨z13, ez⟩ : ∃ y : Int, y = (z6 + (-1 : Int)) := ⟨_, rfl⟩
          replace hf := bnd_s hf ez
          refine lv_iinc (v := Int32.ofInt z13) (lv' := [(1, .int (Int32.ofInt z13)), (0, .ref a_p0)]) hx hb dX1_nextRow_51 hl (k := 0) rfl (by rw [ez]; exact (Int32.ofInt_add _ _).symm) (by decide) rfl (fun ls hl => ?_)
          clear ez
          refine lv_goto (tgt := 7) hx hb dX1_nextRow_54 (by decide) ?_
          exact ih7 _ _ _ _ _ (lv_sub hl [0, 1] rfl) hP hD hS hf
        ·
          replace hf := ite_f (fun h9 => cc ((z_le hr10 hr9).mpr h9)) hf
          clear cc
          exact hJ4 _ _ _ _ _ (lv_sub hl [0, 1] rfl) hP hD hS hf
  exact hB8 _ _ _ _ _ _ (lv_sub hl [0, 1] rfl) hP hD hS hf

noncomputable def B_X1_leastSpread_29 (z2 : Int) (J30 : (Int → Int) → (Int → Int) → (Int → Int) → (Int → Int) → Option (Int × Int × Int × (Int → Int) × (Int → Int) × (Int → Int) × (Int → Int) × (Int → Int) × (Int → Int) × (Int → Int) × (Int → Int))) (i_p0_kitchen_rules_seats : Int) (v_p0_kitchen_rules_after : (Int → Int)) (w4 : (Int → Int)) (w5 : (Int → Int)) (w20 : (Int → Int)) (again29 : Int → (Int → Int) → (Int → Int) → (Int → Int) → (Int → Int) → Option (Int × Int × Int × (Int → Int) × (Int → Int) × (Int → Int) × (Int → Int) × (Int → Int) × (Int → Int) × (Int → Int) × (Int → Int))) (z37 : Int) (w38 : (Int → Int)) (w39 : (Int → Int)) (w40 : (Int → Int)) (w41 : (Int → Int)) : Option (Int × Int × Int × (Int → Int) × (Int → Int) × (Int → Int) × (Int → Int) × (Int → Int) × (Int → Int) × (Int → Int) × (Int → Int)) := (ck (z_r32 z37) (ck (z_r32 z2) (if z2 ≤ z37 then (J30 w38 w39 w40 w41) else (bd4 (f_X1_goOn i_p0_kitchen_rules_seats v_p0_kitchen_rules_after w4 w5 w38 w39 w40 w41 w20 z37) (fun (w45 : (Int → Int)) (w46 : (Int → Int)) (w47 : (Int → Int)) (w48 : (Int → Int)) => (bnd (z37 + (1 : Int)) (fun (z49 : Int) => (again29 z49 w45 w46 w47 w48))))))))
noncomputable def B_X1_leastSpread_13 (z2 : Int) (w4 : (Int → Int)) (w5 : (Int → Int)) (i_p0_kitchen_rules_seats : Int) (i_p0_kitchen_rules_stirs : Int) (v_p0_kitchen_rules_after : (Int → Int)) (again13 : Int → Int → Int → (Int → Int) → (Int → Int) → (Int → Int) → (Int → Int) → (Int → Int) → (Int → Int) → Option (Int × Int × Int × (Int → Int) × (Int → Int) × (Int → Int) × (Int → Int) × (Int → Int) × (Int → Int) × (Int → Int) × (Int → Int))) (z13 : Int) (z14 : Int) (z15 : Int) (w16 : (Int → Int)) (w17 : (Int → Int)) (w18 : (Int → Int)) (w19 : (Int → Int)) (w20 : (Int → Int)) (w21 : (Int → Int)) : Option (Int × Int × Int × (Int → Int) × (Int → Int) × (Int → Int) × (Int → Int) × (Int → Int) × (Int → Int) × (Int → Int) × (Int → Int)) := (ck (z_r32 z13) (if (625 : Int) ≤ z13 then (some (z15, z2, z15, w4, w5, w16, w17, w18, w19, w20, w21)) else (ck (z_r32 z14) (if z14 = (-4 : Int) then (some (z15, z2, z15, w4, w5, w16, w17, w18, w19, w20, w21)) else (bnd z14 (fun (z25 : Int) => (jn (fun (w26 : (Int → Int)) (w27 : (Int → Int)) (w28 : (Int → Int)) (w29 : (Int → Int)) => (bd2 (f_X1_weigh z2 z15 i_p0_kitchen_rules_seats w27 w20 w21) (fun (z31 : Int) (w32 : (Int → Int)) => (bd2 (f_X1_nextRow z2 i_p0_kitchen_rules_stirs w20) (fun (z33 : Int) (w34 : (Int → Int)) => (bnd z33 (fun (z35 : Int) => (bnd (z13 + (1 : Int)) (fun (z36 : Int) => (again13 z36 z35 z31 w26 w27 w28 w29 w34 w32)))))))))) (fun (J30 : (Int → Int) → (Int → Int) → (Int → Int) → (Int → Int) → Option (Int × Int × Int × (Int → Int) × (Int → Int) × (Int → Int) × (Int → Int) × (Int → Int) × (Int → Int) × (Int → Int) × (Int → Int))) => (lq5 (B_X1_leastSpread_29 z2 J30 i_p0_kitchen_rules_seats v_p0_kitchen_rules_after w4 w5 w20) 1000 z25 w16 w17 w18 w19)))))))))
noncomputable def f_X1_leastSpread (i_p0_kitchen_rules_seats : Int) (i_p0_kitchen_rules_stirs : Int) (v_p0_kitchen_rules_after : (Int → Int)) (i_p0_kitchen_state_bone : Int) (i_p0_kitchen_state_king : Int) (v_p0_kitchen_state_pieces : (Int → Int)) (v_p0_kitchen_state_friends : (Int → Int)) (v_p0_kitchen_places : (Int → Int)) (v_p0_kitchen_holders : (Int → Int)) (v_p0_pots : (Int → Int)) (v_p0_sums : (Int → Int)) (v_p0_kings : (Int → Int)) (v_p0_bones : (Int → Int)) (v_p0_row : (Int → Int)) (v_p0_bestRow : (Int → Int)) (x1 : Int) : Option (Int × Int × Int × (Int → Int) × (Int → Int) × (Int → Int) × (Int → Int) × (Int → Int) × (Int → Int) × (Int → Int) × (Int → Int)) := (ck (z_r32 x1) (bd9 (f_X1_begin i_p0_kitchen_rules_seats i_p0_kitchen_state_bone i_p0_kitchen_state_king v_p0_kitchen_state_pieces v_p0_kitchen_state_friends v_p0_kitchen_places v_p0_kitchen_holders v_p0_pots v_p0_sums v_p0_kings v_p0_bones v_p0_row (min x1 (4 : Int))) (fun (z2 : Int) (z3 : Int) (w4 : (Int → Int)) (w5 : (Int → Int)) (w6 : (Int → Int)) (w7 : (Int → Int)) (w8 : (Int → Int)) (w9 : (Int → Int)) (w10 : (Int → Int)) => (bnd (0 : Int) (fun (z11 : Int) => (bnd (0 : Int) (fun (z12 : Int) => (lq9 (B_X1_leastSpread_13 z2 w4 w5 i_p0_kitchen_rules_seats i_p0_kitchen_rules_stirs v_p0_kitchen_rules_after) 1000 z12 z11 z3 w6 w7 w8 w9 w10 v_p0_bestRow))))))))
abbrev rm_X1_leastSpread : Room := { frames := 4, cells := 0, slots := 0, locals := 91 }
theorem mwX1_leastSpread_0 : Cond.methodLink RX1 41 Lib.Math.min.name ∈ wsX1_leastSpread := by first | exact List.mem_of_getElem? (i := 1) rfl | decide +kernel
theorem mwX1_leastSpread_1 : Cond.static Lib.Math.min.name ∈ wsX1_leastSpread := by first | exact List.mem_of_getElem? (i := 2) rfl | decide +kernel
theorem mwX1_leastSpread_2 : Cond.initialized "java/lang/Math" ∈ wsX1_leastSpread := by first | exact List.mem_of_getElem? (i := 3) rfl | decide +kernel
theorem mwX1_leastSpread_3 : Cond.code Lib.Math.min.name Lib.Math.min.code 2 (some .int) ∈ wsX1_leastSpread := by first | exact List.mem_of_getElem? (i := 4) rfl | decide +kernel
theorem hdV_yX1_begin_RX1 : yX1_begin.cls = RX1 ∧ yX1_begin.cls ≠ "java/lang/invoke/MethodHandle" ∧ yX1_begin.cls ≠ "java/lang/invoke/VarHandle" ∧ (parseMethodDescriptor yX1_begin.desc).map (fun d => d.parameters.length) = some 1 := by decide +kernel
theorem inX1_leastSpread_X1 : ∀ w ∈ wsX10, w ∈ wsX1_leastSpread := by first | exact fun w h => List.mem_cons_of_mem _ (List.mem_append_left _ (List.mem_append_left _ (List.mem_append_left _ (List.mem_append_right _ h)))) | decide +kernel
theorem mwX1_leastSpread_6 : Cond.fieldLink RX1 34 "LadleKings$FairDays" "least" "I" ∈ wsX1_leastSpread := by first | exact List.mem_of_getElem? (i := 6) rfl | decide +kernel
theorem hdV_yX1_weigh_RX1 : yX1_weigh.cls = RX1 ∧ yX1_weigh.cls ≠ "java/lang/invoke/MethodHandle" ∧ yX1_weigh.cls ≠ "java/lang/invoke/VarHandle" ∧ (parseMethodDescriptor yX1_weigh.desc).map (fun d => d.parameters.length) = some 0 := by decide +kernel
theorem hdV_yX1_nextRow_RX1 : yX1_nextRow.cls = RX1 ∧ yX1_nextRow.cls ≠ "java/lang/invoke/MethodHandle" ∧ yX1_nextRow.cls ≠ "java/lang/invoke/VarHandle" ∧ (parseMethodDescriptor yX1_nextRow.desc).map (fun d => d.parameters.length) = some 0 := by decide +kernel
theorem mwX1_leastSpread_9 : Cond.fieldLink RX1 30 "LadleKings$FairDays" "days" "I" ∈ wsX1_leastSpread := by first | exact List.mem_of_getElem? (i := 5) rfl | decide +kernel
theorem hdV_yX1_goOn_RX1 : yX1_goOn.cls = RX1 ∧ yX1_goOn.cls ≠ "java/lang/invoke/MethodHandle" ∧ yX1_goOn.cls ≠ "java/lang/invoke/VarHandle" ∧ (parseMethodDescriptor yX1_goOn.desc).map (fun d => d.parameters.length) = some 1 := by decide +kernel
set_option maxHeartbeats 8000000 in
set_option maxRecDepth 100000 in
theorem c_X1_leastSpread (l : Launch) (D : va_G) (G : Nat → ClassId) (sz : Nat) (a_p0 : Nat) (a_p0_kitchen : Nat) (a_p0_pots : Nat) (a_p0_sums : Nat) (a_p0_kings : Nat) (a_p0_bones : Nat) (a_p0_row : Nat) (a_p0_bestRow : Nat) (a_p0_kitchen_rules : Nat) (a_p0_kitchen_state : Nat) (a_p0_kitchen_places : Nat) (a_p0_kitchen_holders : Nat) (a_p0_kitchen_stirred : Nat) (a_p0_kitchen_rules_need : Nat) (a_p0_kitchen_rules_kind : Nat) (a_p0_kitchen_rules_first : Nat) (a_p0_kitchen_rules_second : Nat) (a_p0_kitchen_rules_after : Nat) (a_p0_kitchen_state_pieces : Nat) (a_p0_kitchen_state_friends : Nat) (a_p0_kitchen_state_spoons : Nat) (a_p0_kitchen_state_eaten : Nat) (a_p0_kitchen_state_seen : Nat) (i_p0_days : Int) (i_p0_least : Int) (i_p0_kitchen_rules_seats : Int) (i_p0_kitchen_rules_stirs : Int) (v_p0_kitchen_rules_after : (Int → Int)) (i_p0_kitchen_state_seenDays : Int) (i_p0_kitchen_state_bone : Int) (i_p0_kitchen_state_king : Int) (i_p0_kitchen_state_days : Int) (v_p0_kitchen_state_pieces : (Int → Int)) (v_p0_kitchen_state_friends : (Int → Int)) (v_p0_kitchen_places : (Int → Int)) (v_p0_kitchen_holders : (Int → Int)) (v_p0_pots : (Int → Int)) (v_p0_sums : (Int → Int)) (v_p0_kings : (Int → Int)) (v_p0_bones : (Int → Int)) (v_p0_row : (Int → Int)) (v_p0_bestRow : (Int → Int)) (x1 : Int) (r : Int) (o_i_p0_days : Int) (o_i_p0_least : Int) (o_v_p0_kitchen_places : (Int → Int)) (o_v_p0_kitchen_holders : (Int → Int)) (o_v_p0_pots : (Int → Int)) (o_v_p0_sums : (Int → Int)) (o_v_p0_kings : (Int → Int)) (o_v_p0_bones : (Int → Int)) (o_v_p0_row : (Int → Int)) (o_v_p0_bestRow : (Int → Int)) (hf : f_X1_leastSpread i_p0_kitchen_rules_seats i_p0_kitchen_rules_stirs v_p0_kitchen_rules_after i_p0_kitchen_state_bone i_p0_kitchen_state_king v_p0_kitchen_state_pieces v_p0_kitchen_state_friends v_p0_kitchen_places v_p0_kitchen_holders v_p0_pots v_p0_sums v_p0_kings v_p0_bones v_p0_row v_p0_bestRow x1 = some (r, o_i_p0_days, o_i_p0_least, o_v_p0_kitchen_places, o_v_p0_kitchen_holders, o_v_p0_pots, o_v_p0_sums, o_v_p0_kings, o_v_p0_bones, o_v_p0_row, o_v_p0_bestRow)) : Met l yX1_leastSpread wsX1_leastSpread rm_X1_leastSpread (pcG D G [.ref a_p0, .int (Int32.ofInt x1)] sz [(a_p0, .inr (1, [.ref a_p0_kitchen, .ref a_p0_pots, .ref a_p0_sums, .ref a_p0_kings, .ref a_p0_bones, .ref a_p0_row, .ref a_p0_bestRow, .int (Int32.ofInt i_p0_days), .int (Int32.ofInt i_p0_least)])), (a_p0_kitchen, .inr (2, [.ref a_p0_kitchen_rules, .ref a_p0_kitchen_state, .ref a_p0_kitchen_places, .ref a_p0_kitchen_holders, .ref a_p0_kitchen_stirred])), (a_p0_kitchen_rules, .inr (6, [.int (Int32.ofInt i_p0_kitchen_rules_seats), .int (Int32.ofInt i_p0_kitchen_rules_stirs), .ref a_p0_kitchen_rules_need, .ref a_p0_kitchen_rules_kind, .ref a_p0_kitchen_rules_first, .ref a_p0_kitchen_rules_second, .ref a_p0_kitchen_rules_after])), (a_p0_kitchen_rules_after, .inl (G 1, 35, .inl (zA v_p0_kitchen_rules_after))), (a_p0_kitchen_state, .inr (8, [.ref a_p0_kitchen_state_pieces, .ref a_p0_kitchen_state_friends, .ref a_p0_kitchen_state_spoons, .ref a_p0_kitchen_state_eaten, .ref a_p0_kitchen_state_seen, .int (Int32.ofInt i_p0_kitchen_state_seenDays), .int (Int32.ofInt i_p0_kitchen_state_bone), .int (Int32.ofInt i_p0_kitchen_state_king), .int (Int32.ofInt i_p0_kitchen_state_days)])), (a_p0_kitchen_state_pieces, .inl (G 1, 7, .inl (zA v_p0_kitchen_state_pieces))), (a_p0_kitchen_state_friends, .inl (G 1, 7, .inl (zA v_p0_kitchen_state_friends))), (a_p0_kitchen_places, .inl (G 1, 49, .inl (zA v_p0_kitchen_places))), (a_p0_kitchen_holders, .inl (G 1, 49, .inl (zA v_p0_kitchen_holders))), (a_p0_pots, .inl (G 1, 35, .inl (zA v_p0_pots))), (a_p0_sums, .inl (G 1, 35, .inl (zA v_p0_sums))), (a_p0_kings, .inl (G 1, 5, .inl (zA v_p0_kings))), (a_p0_bones, .inl (G 1, 5, .inl (zA v_p0_bones))), (a_p0_row, .inl (G 1, 4, .inl (zA v_p0_row))), (a_p0_bestRow, .inl (G 1, 4, .inl (zA v_p0_bestRow)))]) (qcI D G (Int32.ofInt r) [(a_p0, .inr (1, [.ref a_p0_kitchen, .ref a_p0_pots, .ref a_p0_sums, .ref a_p0_kings, .ref a_p0_bones, .ref a_p0_row, .ref a_p0_bestRow, .int (Int32.ofInt o_i_p0_days), .int (Int32.ofInt o_i_p0_least)])), (a_p0_kitchen, .inr (2, [.ref a_p0_kitchen_rules, .ref a_p0_kitchen_state, .ref a_p0_kitchen_places, .ref a_p0_kitchen_holders, .ref a_p0_kitchen_stirred])), (a_p0_kitchen_rules, .inr (6, [.int (Int32.ofInt i_p0_kitchen_rules_seats), .int (Int32.ofInt i_p0_kitchen_rules_stirs), .ref a_p0_kitchen_rules_need, .ref a_p0_kitchen_rules_kind, .ref a_p0_kitchen_rules_first, .ref a_p0_kitchen_rules_second, .ref a_p0_kitchen_rules_after])), (a_p0_kitchen_rules_after, .inl (G 1, 35, .inl (zA v_p0_kitchen_rules_after))), (a_p0_kitchen_state, .inr (8, [.ref a_p0_kitchen_state_pieces, .ref a_p0_kitchen_state_friends, .ref a_p0_kitchen_state_spoons, .ref a_p0_kitchen_state_eaten, .ref a_p0_kitchen_state_seen, .int (Int32.ofInt i_p0_kitchen_state_seenDays), .int (Int32.ofInt i_p0_kitchen_state_bone), .int (Int32.ofInt i_p0_kitchen_state_king), .int (Int32.ofInt i_p0_kitchen_state_days)])), (a_p0_kitchen_state_pieces, .inl (G 1, 7, .inl (zA v_p0_kitchen_state_pieces))), (a_p0_kitchen_state_friends, .inl (G 1, 7, .inl (zA v_p0_kitchen_state_friends))), (a_p0_kitchen_places, .inl (G 1, 49, .inl (zA o_v_p0_kitchen_places))), (a_p0_kitchen_holders, .inl (G 1, 49, .inl (zA o_v_p0_kitchen_holders))), (a_p0_pots, .inl (G 1, 35, .inl (zA o_v_p0_pots))), (a_p0_sums, .inl (G 1, 35, .inl (zA o_v_p0_sums))), (a_p0_kings, .inl (G 1, 5, .inl (zA o_v_p0_kings))), (a_p0_bones, .inl (G 1, 5, .inl (zA o_v_p0_bones))), (a_p0_row, .inl (G 1, 4, .inl (zA o_v_p0_row))), (a_p0_bestRow, .inl (G 1, 4, .inl (zA o_v_p0_bestRow)))] (va_A [(a_p0, .inr (1, [.ref a_p0_kitchen, .ref a_p0_pots, .ref a_p0_sums, .ref a_p0_kings, .ref a_p0_bones, .ref a_p0_row, .ref a_p0_bestRow, .int (Int32.ofInt i_p0_days), .int (Int32.ofInt i_p0_least)])), (a_p0_kitchen, .inr (2, [.ref a_p0_kitchen_rules, .ref a_p0_kitchen_state, .ref a_p0_kitchen_places, .ref a_p0_kitchen_holders, .ref a_p0_kitchen_stirred])), (a_p0_kitchen_rules, .inr (6, [.int (Int32.ofInt i_p0_kitchen_rules_seats), .int (Int32.ofInt i_p0_kitchen_rules_stirs), .ref a_p0_kitchen_rules_need, .ref a_p0_kitchen_rules_kind, .ref a_p0_kitchen_rules_first, .ref a_p0_kitchen_rules_second, .ref a_p0_kitchen_rules_after])), (a_p0_kitchen_rules_after, .inl (G 1, 35, .inl (zA v_p0_kitchen_rules_after))), (a_p0_kitchen_state, .inr (8, [.ref a_p0_kitchen_state_pieces, .ref a_p0_kitchen_state_friends, .ref a_p0_kitchen_state_spoons, .ref a_p0_kitchen_state_eaten, .ref a_p0_kitchen_state_seen, .int (Int32.ofInt i_p0_kitchen_state_seenDays), .int (Int32.ofInt i_p0_kitchen_state_bone), .int (Int32.ofInt i_p0_kitchen_state_king), .int (Int32.ofInt i_p0_kitchen_state_days)])), (a_p0_kitchen_state_pieces, .inl (G 1, 7, .inl (zA v_p0_kitchen_state_pieces))), (a_p0_kitchen_state_friends, .inl (G 1, 7, .inl (zA v_p0_kitchen_state_friends))), (a_p0_kitchen_places, .inl (G 1, 49, .inl (zA v_p0_kitchen_places))), (a_p0_kitchen_holders, .inl (G 1, 49, .inl (zA v_p0_kitchen_holders))), (a_p0_pots, .inl (G 1, 35, .inl (zA v_p0_pots))), (a_p0_sums, .inl (G 1, 35, .inl (zA v_p0_sums))), (a_p0_kings, .inl (G 1, 5, .inl (zA v_p0_kings))), (a_p0_bones, .inl (G 1, 5, .inl (zA v_p0_bones))), (a_p0_row, .inl (G 1, 4, .inl (zA v_p0_row))), (a_p0_bestRow, .inl (G 1, 4, .inl (zA v_p0_bestRow)))] sz)) 0 0 (va_A [(a_p0, .inr (1, [.ref a_p0_kitchen, .ref a_p0_pots, .ref a_p0_sums, .ref a_p0_kings, .ref a_p0_bones, .ref a_p0_row, .ref a_p0_bestRow, .int (Int32.ofInt i_p0_days), .int (Int32.ofInt i_p0_least)])), (a_p0_kitchen, .inr (2, [.ref a_p0_kitchen_rules, .ref a_p0_kitchen_state, .ref a_p0_kitchen_places, .ref a_p0_kitchen_holders, .ref a_p0_kitchen_stirred])), (a_p0_kitchen_rules, .inr (6, [.int (Int32.ofInt i_p0_kitchen_rules_seats), .int (Int32.ofInt i_p0_kitchen_rules_stirs), .ref a_p0_kitchen_rules_need, .ref a_p0_kitchen_rules_kind, .ref a_p0_kitchen_rules_first, .ref a_p0_kitchen_rules_second, .ref a_p0_kitchen_rules_after])), (a_p0_kitchen_rules_after, .inl (G 1, 35, .inl (zA v_p0_kitchen_rules_after))), (a_p0_kitchen_state, .inr (8, [.ref a_p0_kitchen_state_pieces, .ref a_p0_kitchen_state_friends, .ref a_p0_kitchen_state_spoons, .ref a_p0_kitchen_state_eaten, .ref a_p0_kitchen_state_seen, .int (Int32.ofInt i_p0_kitchen_state_seenDays), .int (Int32.ofInt i_p0_kitchen_state_bone), .int (Int32.ofInt i_p0_kitchen_state_king), .int (Int32.ofInt i_p0_kitchen_state_days)])), (a_p0_kitchen_state_pieces, .inl (G 1, 7, .inl (zA v_p0_kitchen_state_pieces))), (a_p0_kitchen_state_friends, .inl (G 1, 7, .inl (zA v_p0_kitchen_state_friends))), (a_p0_kitchen_places, .inl (G 1, 49, .inl (zA v_p0_kitchen_places))), (a_p0_kitchen_holders, .inl (G 1, 49, .inl (zA v_p0_kitchen_holders))), (a_p0_pots, .inl (G 1, 35, .inl (zA v_p0_pots))), (a_p0_sums, .inl (G 1, 35, .inl (zA v_p0_sums))), (a_p0_kings, .inl (G 1, 5, .inl (zA v_p0_kings))), (a_p0_bones, .inl (G 1, 5, .inl (zA v_p0_bones))), (a_p0_row, .inl (G 1, 4, .inl (zA v_p0_row))), (a_p0_bestRow, .inl (G 1, 4, .inl (zA v_p0_bestRow)))] sz) := by
  refine Met.ofW (cc := cX1_leastSpread) (maxL := 5) (ret := (some .int)) (by decide) rfl ?_
  intro p e s m args below meth c s₁ B hml hv
  obtain ⟨rfl, hsz, hP, hK, hD0⟩ := hv
  have hx := B.exec
  have hb := B.bytes
  have hr := B.returns
  have hts := atoms_spec (ws := wsX1_leastSpread) B.pre
  have hown : s.vm.findClass RX1 = some m.cls := findClass_of_methodNamed B.named
  have hlocks := B.notSynchronized
  subst hsz
  have hD := hD0.self (sz := s.heap.size)
  generalize hAe : va_A [(a_p0, .inr (1, [.ref a_p0_kitchen, .ref a_p0_pots, .ref a_p0_sums, .ref a_p0_kings, .ref a_p0_bones, .ref a_p0_row, .ref a_p0_bestRow, .int (Int32.ofInt i_p0_days), .int (Int32.ofInt i_p0_least)])), (a_p0_kitchen, .inr (2, [.ref a_p0_kitchen_rules, .ref a_p0_kitchen_state, .ref a_p0_kitchen_places, .ref a_p0_kitchen_holders, .ref a_p0_kitchen_stirred])), (a_p0_kitchen_rules, .inr (6, [.int (Int32.ofInt i_p0_kitchen_rules_seats), .int (Int32.ofInt i_p0_kitchen_rules_stirs), .ref a_p0_kitchen_rules_need, .ref a_p0_kitchen_rules_kind, .ref a_p0_kitchen_rules_first, .ref a_p0_kitchen_rules_second, .ref a_p0_kitchen_rules_after])), (a_p0_kitchen_rules_after, .inl (G 1, 35, .inl (zA v_p0_kitchen_rules_after))), (a_p0_kitchen_state, .inr (8, [.ref a_p0_kitchen_state_pieces, .ref a_p0_kitchen_state_friends, .ref a_p0_kitchen_state_spoons, .ref a_p0_kitchen_state_eaten, .ref a_p0_kitchen_state_seen, .int (Int32.ofInt i_p0_kitchen_state_seenDays), .int (Int32.ofInt i_p0_kitchen_state_bone), .int (Int32.ofInt i_p0_kitchen_state_king), .int (Int32.ofInt i_p0_kitchen_state_days)])), (a_p0_kitchen_state_pieces, .inl (G 1, 7, .inl (zA v_p0_kitchen_state_pieces))), (a_p0_kitchen_state_friends, .inl (G 1, 7, .inl (zA v_p0_kitchen_state_friends))), (a_p0_kitchen_places, .inl (G 1, 49, .inl (zA v_p0_kitchen_places))), (a_p0_kitchen_holders, .inl (G 1, 49, .inl (zA v_p0_kitchen_holders))), (a_p0_pots, .inl (G 1, 35, .inl (zA v_p0_pots))), (a_p0_sums, .inl (G 1, 35, .inl (zA v_p0_sums))), (a_p0_kings, .inl (G 1, 5, .inl (zA v_p0_kings))), (a_p0_bones, .inl (G 1, 5, .inl (zA v_p0_bones))), (a_p0_row, .inl (G 1, 4, .inl (zA v_p0_row))), (a_p0_bestRow, .inl (G 1, 4, .inl (zA v_p0_bestRow)))] s.heap.size = A at hD ⊢
  have hA : ∀ q : Nat, s.heap.size ≤ q → A q := fun q h => by rw [← hAe]; exact Or.inr h
  clear hAe hD0
  have hS : va_S A s.heap s.heap [] := va_S.rf
  have hl := lv_entry ([.ref a_p0, .int (Int32.ofInt x1)]) (n := 5) (Nat.le_of_ble_eq_true rfl)
  rw [lg_entry_eq]
  generalize (lg_sl ([.ref a_p0, .int (Int32.ofInt x1)]) ++ List.replicate (5 - (lg_sl ([.ref a_p0, .int (Int32.ofInt x1)])).length) Slot.unset).toArray = ls at hl ⊢
  have hl : lv_has ls 5 [(0, .ref a_p0), (1, .int (Int32.ofInt x1))] := hl
  refine W_nameQ (fun Q hQ => ?_)
  obtain ⟨H, hH⟩ : ∃ H, H = s.heap := ⟨_, rfl⟩
  replace hS : va_S A s.heap H [] := by rw [hH]; exact hS
  replace hP : va_P D vwCl [(a_p0, .inr (1, [.ref a_p0_kitchen, .ref a_p0_pots, .ref a_p0_sums, .ref a_p0_kings, .ref a_p0_bones, .ref a_p0_row, .ref a_p0_bestRow, .int (Int32.ofInt i_p0_days), .int (Int32.ofInt i_p0_least)])), (a_p0_kitchen, .inr (2, [.ref a_p0_kitchen_rules, .ref a_p0_kitchen_state, .ref a_p0_kitchen_places, .ref a_p0_kitchen_holders, .ref a_p0_kitchen_stirred])), (a_p0_kitchen_rules, .inr (6, [.int (Int32.ofInt i_p0_kitchen_rules_seats), .int (Int32.ofInt i_p0_kitchen_rules_stirs), .ref a_p0_kitchen_rules_need, .ref a_p0_kitchen_rules_kind, .ref a_p0_kitchen_rules_first, .ref a_p0_kitchen_rules_second, .ref a_p0_kitchen_rules_after])), (a_p0_kitchen_rules_after, .inl (G 1, 35, .inl (zA v_p0_kitchen_rules_after))), (a_p0_kitchen_state, .inr (8, [.ref a_p0_kitchen_state_pieces, .ref a_p0_kitchen_state_friends, .ref a_p0_kitchen_state_spoons, .ref a_p0_kitchen_state_eaten, .ref a_p0_kitchen_state_seen, .int (Int32.ofInt i_p0_kitchen_state_seenDays), .int (Int32.ofInt i_p0_kitchen_state_bone), .int (Int32.ofInt i_p0_kitchen_state_king), .int (Int32.ofInt i_p0_kitchen_state_days)])), (a_p0_kitchen_state_pieces, .inl (G 1, 7, .inl (zA v_p0_kitchen_state_pieces))), (a_p0_kitchen_state_friends, .inl (G 1, 7, .inl (zA v_p0_kitchen_state_friends))), (a_p0_kitchen_places, .inl (G 1, 49, .inl (zA v_p0_kitchen_places))), (a_p0_kitchen_holders, .inl (G 1, 49, .inl (zA v_p0_kitchen_holders))), (a_p0_pots, .inl (G 1, 35, .inl (zA v_p0_pots))), (a_p0_sums, .inl (G 1, 35, .inl (zA v_p0_sums))), (a_p0_kings, .inl (G 1, 5, .inl (zA v_p0_kings))), (a_p0_bones, .inl (G 1, 5, .inl (zA v_p0_bones))), (a_p0_row, .inl (G 1, 4, .inl (zA v_p0_row))), (a_p0_bestRow, .inl (G 1, 4, .inl (zA v_p0_bestRow)))] H := by rw [hH]; exact hP
  rw [← hH]
  clear hH
  unfold f_X1_leastSpread at hf
  refine lv_aload_n hx hb dX1_leastSpread_0 rfl (lv_at hl 0 rfl) ?_
  refine lv_iload_n hx hb dX1_leastSpread_1 rfl (lv_at hl 1 rfl) ?_
  refine lv_iconst (v := Int32.ofInt (4 : Int)) hx hb dX1_leastSpread_2 (by decide) ?_
  have hr0 := ck_c hf
  replace hf := ck_r hf
  refine va_mmin hx hb (by rw [hml]; exact hl.1.symm) hown (hts _ mwX1_leastSpread_0) (hts _ mwX1_leastSpread_1) (hts _ mwX1_leastSpread_2) (hts _ mwX1_leastSpread_3) (Nat.le_of_ble_eq_true rfl) (Nat.le_of_ble_eq_true rfl) (Nat.le_of_ble_eq_true rfl) (Nat.le_of_ble_eq_true rfl) dX1_leastSpread_3 (z_ci (z_min hr0 (by decide)) ?_)
  have hq := bd9_s hf
  clear hf
  obtain ⟨z2, z3, w4, w5, w6, w7, w8, w9, w10, hcall, hf⟩ := hq
  refine gcV (ws' := [(a_p0, .inr (1, [.ref a_p0_kitchen, .ref a_p0_pots, .ref a_p0_sums, .ref a_p0_kings, .ref a_p0_bones, .ref a_p0_row, .ref a_p0_bestRow, .int (Int32.ofInt z2), .int (Int32.ofInt z3)])), (a_p0_kitchen, .inr (2, [.ref a_p0_kitchen_rules, .ref a_p0_kitchen_state, .ref a_p0_kitchen_places, .ref a_p0_kitchen_holders, .ref a_p0_kitchen_stirred])), (a_p0_kitchen_rules, .inr (6, [.int (Int32.ofInt i_p0_kitchen_rules_seats), .int (Int32.ofInt i_p0_kitchen_rules_stirs), .ref a_p0_kitchen_rules_need, .ref a_p0_kitchen_rules_kind, .ref a_p0_kitchen_rules_first, .ref a_p0_kitchen_rules_second, .ref a_p0_kitchen_rules_after])), (a_p0_kitchen_rules_after, .inl (G 1, 35, .inl (zA v_p0_kitchen_rules_after))), (a_p0_kitchen_state, .inr (8, [.ref a_p0_kitchen_state_pieces, .ref a_p0_kitchen_state_friends, .ref a_p0_kitchen_state_spoons, .ref a_p0_kitchen_state_eaten, .ref a_p0_kitchen_state_seen, .int (Int32.ofInt i_p0_kitchen_state_seenDays), .int (Int32.ofInt i_p0_kitchen_state_bone), .int (Int32.ofInt i_p0_kitchen_state_king), .int (Int32.ofInt i_p0_kitchen_state_days)])), (a_p0_kitchen_state_pieces, .inl (G 1, 7, .inl (zA v_p0_kitchen_state_pieces))), (a_p0_kitchen_state_friends, .inl (G 1, 7, .inl (zA v_p0_kitchen_state_friends))), (a_p0_kitchen_places, .inl (G 1, 49, .inl (zA w4))), (a_p0_kitchen_holders, .inl (G 1, 49, .inl (zA w5))), (a_p0_pots, .inl (G 1, 35, .inl (zA w6))), (a_p0_sums, .inl (G 1, 35, .inl (zA w7))), (a_p0_kings, .inl (G 1, 5, .inl (zA w8))), (a_p0_bones, .inl (G 1, 5, .inl (zA w9))), (a_p0_row, .inl (G 1, 4, .inl (zA w10))), (a_p0_bestRow, .inl (G 1, 4, .inl (zA v_p0_bestRow)))]) (va_runV (As := [.int (Int32.ofInt (min x1 (4 : Int)))]) (rest := []) ⟨hx, hb, hml, hown, hts⟩ (c_X1_begin (l := l) (D := D) (G := G) (sz := H.size) (a_p0 := a_p0) (a_p0_kitchen := a_p0_kitchen) (a_p0_pots := a_p0_pots) (a_p0_sums := a_p0_sums) (a_p0_kings := a_p0_kings) (a_p0_bones := a_p0_bones) (a_p0_row := a_p0_row) (a_p0_bestRow := a_p0_bestRow) (a_p0_kitchen_rules := a_p0_kitchen_rules) (a_p0_kitchen_state := a_p0_kitchen_state) (a_p0_kitchen_places := a_p0_kitchen_places) (a_p0_kitchen_holders := a_p0_kitchen_holders) (a_p0_kitchen_stirred := a_p0_kitchen_stirred) (a_p0_kitchen_rules_need := a_p0_kitchen_rules_need) (a_p0_kitchen_rules_kind := a_p0_kitchen_rules_kind) (a_p0_kitchen_rules_first := a_p0_kitchen_rules_first) (a_p0_kitchen_rules_second := a_p0_kitchen_rules_second) (a_p0_kitchen_rules_after := a_p0_kitchen_rules_after) (a_p0_kitchen_state_pieces := a_p0_kitchen_state_pieces) (a_p0_kitchen_state_friends := a_p0_kitchen_state_friends) (a_p0_kitchen_state_spoons := a_p0_kitchen_state_spoons) (a_p0_kitchen_state_eaten := a_p0_kitchen_state_eaten) (a_p0_kitchen_state_seen := a_p0_kitchen_state_seen) (i_p0_days := i_p0_days) (i_p0_least := i_p0_least) (i_p0_kitchen_rules_seats := i_p0_kitchen_rules_seats) (i_p0_kitchen_rules_stirs := i_p0_kitchen_rules_stirs) (i_p0_kitchen_state_seenDays := i_p0_kitchen_state_seenDays) (i_p0_kitchen_state_bone := i_p0_kitchen_state_bone) (i_p0_kitchen_state_king := i_p0_kitchen_state_king) (i_p0_kitchen_state_days := i_p0_kitchen_state_days) (v_p0_kitchen_state_pieces := v_p0_kitchen_state_pieces) (v_p0_kitchen_state_friends := v_p0_kitchen_state_friends) (v_p0_kitchen_places := v_p0_kitchen_places) (v_p0_kitchen_holders := v_p0_kitchen_holders) (v_p0_pots := v_p0_pots) (v_p0_sums := v_p0_sums) (v_p0_kings := v_p0_kings) (v_p0_bones := v_p0_bones) (v_p0_row := v_p0_row) (x1 := (min x1 (4 : Int))) (o_i_p0_days := z2) (o_i_p0_least := z3) (o_v_p0_kitchen_places := w4) (o_v_p0_kitchen_holders := w5) (o_v_p0_pots := w6) (o_v_p0_sums := w7) (o_v_p0_kings := w8) (o_v_p0_bones := w9) (o_v_p0_row := w10) (hf := hcall)) (cwV 1 hts gX1_leastSpread_X1_begin rfl rfl rfl hdV_yX1_begin_RX1 ⟨Nat.le_of_ble_eq_true rfl, Nat.le_of_ble_eq_true rfl⟩) (preG_V (ci := 1) (q := (RX1, TX1, 9)) (hP.sub [0, 1, 2, 4, 5, 6, 7, 8, 9, 10, 11, 12, 13] rfl) (hD.sub [0, 1, 2, 4, 5, 6, 7, 8, 9, 10, 11, 12, 13] rfl rfl) hK rfl rfl) rfl rfl hl.1 rfl (lv_room (Nat.le_of_ble_eq_true rfl)) dX1_leastSpread_6 ⟨Nat.le_of_ble_eq_true rfl, Nat.le_of_ble_eq_true rfl⟩) hP hD hS hA [0, 1, 2, 4, 5, 6, 7, 8, 9, 10, 11, 12, 13] [3, 14] [2, 3, 4, 0, 5, 6, 7, 8, 9, 10, 11, 12, 13, 14, 1] rfl rfl rfl (by decide) rfl rfl rfl (fun H locs hP hD hS => ?_)
  clear hcall
  refine lv_iconst (v := Int32.ofInt (0 : Int)) hx hb dX1_leastSpread_9 (by decide) ?_
  refine z_topi (fun z11 ez => ?_)
  replace hf := bnd_s hf ez
  clear ez
  refine lv_istore_n (lv' := [(2, .int (Int32.ofInt z11)), (0, .ref a_p0), (1, .int (Int32.ofInt x1))]) hx hb dX1_leastSpread_10 rfl hl (by decide) rfl (fun ls hl => ?_)
  refine lv_iconst (v := Int32.ofInt (0 : Int)) hx hb dX1_leastSpread_11 (by decide) ?_
  refine z_topi (fun z12 ez => ?_)
  replace hf := bnd_s hf ez
  clear ez
  refine lv_istore_n (lv' := [(3, .int (Int32.ofInt z12)), (2, .int (Int32.ofInt z11)), (0, .ref a_p0), (1, .int (Int32.ofInt x1))]) hx hb dX1_leastSpread_12 rfl hl (by decide) rfl (fun ls hl => ?_)
  have hq := lq9_i hf
  clear hf
  obtain ⟨B22, eB22, NB22, hf⟩ := hq
  have hB22 : ∀ (n : Nat) (z13 : Int) (z14 : Int) (z15 : Int) (w16 : (Int → Int)) (w17 : (Int → Int)) (w18 : (Int → Int)) (w19 : (Int → Int)) (w20 : (Int → Int)) (w21 : (Int → Int)) (ls : Array Slot) (H : Heap) (locs : List Loc), lv_has ls 5 [(3, .int (Int32.ofInt z13)), (2, .int (Int32.ofInt z14)), (0, .ref a_p0)] → va_P D vwCl [(a_p0, .inr (1, [.ref a_p0_kitchen, .ref a_p0_pots, .ref a_p0_sums, .ref a_p0_kings, .ref a_p0_bones, .ref a_p0_row, .ref a_p0_bestRow, .int (Int32.ofInt z2), .int (Int32.ofInt z15)])), (a_p0_kitchen, .inr (2, [.ref a_p0_kitchen_rules, .ref a_p0_kitchen_state, .ref a_p0_kitchen_places, .ref a_p0_kitchen_holders, .ref a_p0_kitchen_stirred])), (a_p0_kitchen_rules, .inr (6, [.int (Int32.ofInt i_p0_kitchen_rules_seats), .int (Int32.ofInt i_p0_kitchen_rules_stirs), .ref a_p0_kitchen_rules_need, .ref a_p0_kitchen_rules_kind, .ref a_p0_kitchen_rules_first, .ref a_p0_kitchen_rules_second, .ref a_p0_kitchen_rules_after])), (a_p0_kitchen_rules_after, .inl (G 1, 35, .inl (zA v_p0_kitchen_rules_after))), (a_p0_kitchen_state, .inr (8, [.ref a_p0_kitchen_state_pieces, .ref a_p0_kitchen_state_friends, .ref a_p0_kitchen_state_spoons, .ref a_p0_kitchen_state_eaten, .ref a_p0_kitchen_state_seen, .int (Int32.ofInt i_p0_kitchen_state_seenDays), .int (Int32.ofInt i_p0_kitchen_state_bone), .int (Int32.ofInt i_p0_kitchen_state_king), .int (Int32.ofInt i_p0_kitchen_state_days)])), (a_p0_kitchen_state_pieces, .inl (G 1, 7, .inl (zA v_p0_kitchen_state_pieces))), (a_p0_kitchen_state_friends, .inl (G 1, 7, .inl (zA v_p0_kitchen_state_friends))), (a_p0_kitchen_places, .inl (G 1, 49, .inl (zA w4))), (a_p0_kitchen_holders, .inl (G 1, 49, .inl (zA w5))), (a_p0_pots, .inl (G 1, 35, .inl (zA w16))), (a_p0_sums, .inl (G 1, 35, .inl (zA w17))), (a_p0_kings, .inl (G 1, 5, .inl (zA w18))), (a_p0_bones, .inl (G 1, 5, .inl (zA w19))), (a_p0_row, .inl (G 1, 4, .inl (zA w20))), (a_p0_bestRow, .inl (G 1, 4, .inl (zA w21)))] H → va_D A [(a_p0, .inr (1, [.ref a_p0_kitchen, .ref a_p0_pots, .ref a_p0_sums, .ref a_p0_kings, .ref a_p0_bones, .ref a_p0_row, .ref a_p0_bestRow, .int (Int32.ofInt z2), .int (Int32.ofInt z15)])), (a_p0_kitchen, .inr (2, [.ref a_p0_kitchen_rules, .ref a_p0_kitchen_state, .ref a_p0_kitchen_places, .ref a_p0_kitchen_holders, .ref a_p0_kitchen_stirred])), (a_p0_kitchen_rules, .inr (6, [.int (Int32.ofInt i_p0_kitchen_rules_seats), .int (Int32.ofInt i_p0_kitchen_rules_stirs), .ref a_p0_kitchen_rules_need, .ref a_p0_kitchen_rules_kind, .ref a_p0_kitchen_rules_first, .ref a_p0_kitchen_rules_second, .ref a_p0_kitchen_rules_after])), (a_p0_kitchen_rules_after, .inl (G 1, 35, .inl (zA v_p0_kitchen_rules_after))), (a_p0_kitchen_state, .inr (8, [.ref a_p0_kitchen_state_pieces, .ref a_p0_kitchen_state_friends, .ref a_p0_kitchen_state_spoons, .ref a_p0_kitchen_state_eaten, .ref a_p0_kitchen_state_seen, .int (Int32.ofInt i_p0_kitchen_state_seenDays), .int (Int32.ofInt i_p0_kitchen_state_bone), .int (Int32.ofInt i_p0_kitchen_state_king), .int (Int32.ofInt i_p0_kitchen_state_days)])), (a_p0_kitchen_state_pieces, .inl (G 1, 7, .inl (zA v_p0_kitchen_state_pieces))), (a_p0_kitchen_state_friends, .inl (G 1, 7, .inl (zA v_p0_kitchen_state_friends))), (a_p0_kitchen_places, .inl (G 1, 49, .inl (zA w4))), (a_p0_kitchen_holders, .inl (G 1, 49, .inl (zA w5))), (a_p0_pots, .inl (G 1, 35, .inl (zA w16))), (a_p0_sums, .inl (G 1, 35, .inl (zA w17))), (a_p0_kings, .inl (G 1, 5, .inl (zA w18))), (a_p0_bones, .inl (G 1, 5, .inl (zA w19))), (a_p0_row, .inl (G 1, 4, .inl (zA w20))), (a_p0_bestRow, .inl (G 1, 4, .inl (zA w21)))] → va_S A s.heap H locs → lq9 B22 n z13 z14 z15 w16 w17 w18 w19 w20 w21 = some (r, o_i_p0_days, o_i_p0_least, o_v_p0_kitchen_places, o_v_p0_kitchen_holders, o_v_p0_pots, o_v_p0_sums, o_v_p0_kings, o_v_p0_bones, o_v_p0_row, o_v_p0_bestRow) → W p l e rm_X1_leastSpread s m ([.ref a_p0, .int (Int32.ofInt x1)] : List Value).toArray below meth c H locs 0 0 Q (F0 m 13 ls []) := by
    clear hf hl hP hD hS
    intro n
    induction n with
    | zero =>
      intro z13 z14 z15 w16 w17 w18 w19 w20 w21 ls H locs hl hP hD hS hf
      exact (lq9_0 hf).elim
    | succ n ih13 =>
      intro z13 z14 z15 w16 w17 w18 w19 w20 w21 ls H locs hl hP hD hS hf
      replace hf := lq9_s eB22 hf
      unfold B_X1_leastSpread_13 at hf
      refine lv_iload_n hx hb dX1_leastSpread_13 rfl (lv_at hl 0 rfl) ?_
      refine lv_sipush (v := Int32.ofInt (625 : Int)) hx hb dX1_leastSpread_14 (by decide) ?_
      have hr22 := ck_c hf
      replace hf := ck_r hf
      refine lv_icmp_ge (tgt := 65) hx hb dX1_leastSpread_17 (by decide) (fun cc => ?_) (fun cc => ?_)
      ·
        replace hf := ite_t ((z_le (by decide) hr22).mp cc) hf
        clear cc
        refine lv_aload_n hx hb dX1_leastSpread_65 rfl (lv_at hl 2 rfl) ?_
        refine va_get (D := D) (ci := 1) (v := .int (Int32.ofInt z15)) (C := RX1) (T := TX1) (N := 9) hx hb hts inX1_leastSpread_X1 hown hK hP 0 rfl rfl 8 (by decide) (hts _ mwX1_leastSpread_6) (fun _ h9 => h9) rfl dX1_leastSpread_66 ?_
        obtain ⟨rfl, rfl, rfl, rfl, rfl, rfl, rfl, rfl, rfl, rfl, rfl⟩ := ou11 hf
        rw [hQ]
        exact W.iret hx hb hr (fun t ht hW => ⟨⟨_, (), rfl, rfl, by rw [ht]; exact hP, va_K.moved hW.alike hK, hD⟩, hS.F ht⟩) hS.2.2 dX1_leastSpread_69
      ·
        replace hf := ite_f (fun h9 => cc ((z_le (by decide) hr22).mpr h9)) hf
        clear cc
        refine lv_iload_n hx hb dX1_leastSpread_20 rfl (lv_at hl 1 rfl) ?_
        refine lv_bipush (v := Int32.ofInt (-4 : Int)) hx hb dX1_leastSpread_21 (by decide) ?_
        have hr23 := ck_c hf
        replace hf := ck_r hf
        refine lv_icmp_eq (tgt := 65) hx hb dX1_leastSpread_23 (by decide) (fun cc => ?_) (fun cc => ?_)
        ·
          replace hf := ite_t ((z_eq hr23 (by decide)).mp cc) hf
          clear cc
          refine lv_aload_n hx hb dX1_leastSpread_65 rfl (lv_at hl 2 rfl) ?_
          refine va_get (D := D) (ci := 1) (v := .int (Int32.ofInt z15)) (C := RX1) (T := TX1) (N := 9) hx hb hts inX1_leastSpread_X1 hown hK hP 0 rfl rfl 8 (by decide) (hts _ mwX1_leastSpread_6) (fun _ h9 => h9) rfl dX1_leastSpread_66 ?_
          obtain ⟨rfl, rfl, rfl, rfl, rfl, rfl, rfl, rfl, rfl, rfl, rfl⟩ := ou11 hf
          rw [hQ]
          exact W.iret hx hb hr (fun t ht hW => ⟨⟨_, (), rfl, rfl, by rw [ht]; exact hP, va_K.moved hW.alike hK, hD⟩, hS.F ht⟩) hS.2.2 dX1_leastSpread_69
        ·
          replace hf := ite_f (fun h9 => cc ((z_eq hr23 (by decide)).mpr h9)) hf
          clear cc
          refine lv_iload_n hx hb dX1_leastSpread_26 rfl (lv_at hl 1 rfl) ?_
          refine z_topi (fun z25 ez => ?_)
          replace hf := bnd_s hf ez
          clear ez
          refine lv_istore (lv' := [(4, .int (Int32.ofInt z25)), (3, .int (Int32.ofInt z13)), (2, .int (Int32.ofInt z14)), (0, .ref a_p0)]) hx hb dX1_leastSpread_27 hl (by decide) rfl (fun ls hl => ?_)
          have hq := jn_i hf
          clear hf
          obtain ⟨J30, eJ30, hf⟩ := hq
          have hJ30 : ∀ (w26 : (Int → Int)) (w27 : (Int → Int)) (w28 : (Int → Int)) (w29 : (Int → Int)) (ls : Array Slot) (H : Heap) (locs : List Loc), lv_has ls 5 [(3, .int (Int32.ofInt z13)), (0, .ref a_p0)] → va_P D vwCl [(a_p0, .inr (1, [.ref a_p0_kitchen, .ref a_p0_pots, .ref a_p0_sums, .ref a_p0_kings, .ref a_p0_bones, .ref a_p0_row, .ref a_p0_bestRow, .int (Int32.ofInt z2), .int (Int32.ofInt z15)])), (a_p0_kitchen, .inr (2, [.ref a_p0_kitchen_rules, .ref a_p0_kitchen_state, .ref a_p0_kitchen_places, .ref a_p0_kitchen_holders, .ref a_p0_kitchen_stirred])), (a_p0_kitchen_rules, .inr (6, [.int (Int32.ofInt i_p0_kitchen_rules_seats), .int (Int32.ofInt i_p0_kitchen_rules_stirs), .ref a_p0_kitchen_rules_need, .ref a_p0_kitchen_rules_kind, .ref a_p0_kitchen_rules_first, .ref a_p0_kitchen_rules_second, .ref a_p0_kitchen_rules_after])), (a_p0_kitchen_rules_after, .inl (G 1, 35, .inl (zA v_p0_kitchen_rules_after))), (a_p0_kitchen_state, .inr (8, [.ref a_p0_kitchen_state_pieces, .ref a_p0_kitchen_state_friends, .ref a_p0_kitchen_state_spoons, .ref a_p0_kitchen_state_eaten, .ref a_p0_kitchen_state_seen, .int (Int32.ofInt i_p0_kitchen_state_seenDays), .int (Int32.ofInt i_p0_kitchen_state_bone), .int (Int32.ofInt i_p0_kitchen_state_king), .int (Int32.ofInt i_p0_kitchen_state_days)])), (a_p0_kitchen_state_pieces, .inl (G 1, 7, .inl (zA v_p0_kitchen_state_pieces))), (a_p0_kitchen_state_friends, .inl (G 1, 7, .inl (zA v_p0_kitchen_state_friends))), (a_p0_kitchen_places, .inl (G 1, 49, .inl (zA w4))), (a_p0_kitchen_holders, .inl (G 1, 49, .inl (zA w5))), (a_p0_pots, .inl (G 1, 35, .inl (zA w26))), (a_p0_sums, .inl (G 1, 35, .inl (zA w27))), (a_p0_kings, .inl (G 1, 5, .inl (zA w28))), (a_p0_bones, .inl (G 1, 5, .inl (zA w29))), (a_p0_row, .inl (G 1, 4, .inl (zA w20))), (a_p0_bestRow, .inl (G 1, 4, .inl (zA w21)))] H → va_D A [(a_p0, .inr (1, [.ref a_p0_kitchen, .ref a_p0_pots, .ref a_p0_sums, .ref a_p0_kings, .ref a_p0_bones, .ref a_p0_row, .ref a_p0_bestRow, .int (Int32.ofInt z2), .int (Int32.ofInt z15)])), (a_p0_kitchen, .inr (2, [.ref a_p0_kitchen_rules, .ref a_p0_kitchen_state, .ref a_p0_kitchen_places, .ref a_p0_kitchen_holders, .ref a_p0_kitchen_stirred])), (a_p0_kitchen_rules, .inr (6, [.int (Int32.ofInt i_p0_kitchen_rules_seats), .int (Int32.ofInt i_p0_kitchen_rules_stirs), .ref a_p0_kitchen_rules_need, .ref a_p0_kitchen_rules_kind, .ref a_p0_kitchen_rules_first, .ref a_p0_kitchen_rules_second, .ref a_p0_kitchen_rules_after])), (a_p0_kitchen_rules_after, .inl (G 1, 35, .inl (zA v_p0_kitchen_rules_after))), (a_p0_kitchen_state, .inr (8, [.ref a_p0_kitchen_state_pieces, .ref a_p0_kitchen_state_friends, .ref a_p0_kitchen_state_spoons, .ref a_p0_kitchen_state_eaten, .ref a_p0_kitchen_state_seen, .int (Int32.ofInt i_p0_kitchen_state_seenDays), .int (Int32.ofInt i_p0_kitchen_state_bone), .int (Int32.ofInt i_p0_kitchen_state_king), .int (Int32.ofInt i_p0_kitchen_state_days)])), (a_p0_kitchen_state_pieces, .inl (G 1, 7, .inl (zA v_p0_kitchen_state_pieces))), (a_p0_kitchen_state_friends, .inl (G 1, 7, .inl (zA v_p0_kitchen_state_friends))), (a_p0_kitchen_places, .inl (G 1, 49, .inl (zA w4))), (a_p0_kitchen_holders, .inl (G 1, 49, .inl (zA w5))), (a_p0_pots, .inl (G 1, 35, .inl (zA w26))), (a_p0_sums, .inl (G 1, 35, .inl (zA w27))), (a_p0_kings, .inl (G 1, 5, .inl (zA w28))), (a_p0_bones, .inl (G 1, 5, .inl (zA w29))), (a_p0_row, .inl (G 1, 4, .inl (zA w20))), (a_p0_bestRow, .inl (G 1, 4, .inl (zA w21)))] → va_S A s.heap H locs → J30 w26 w27 w28 w29 = some (r, o_i_p0_days, o_i_p0_least, o_v_p0_kitchen_places, o_v_p0_kitchen_holders, o_v_p0_pots, o_v_p0_sums, o_v_p0_kings, o_v_p0_bones, o_v_p0_row, o_v_p0_bestRow) → W p l e rm_X1_leastSpread s m ([.ref a_p0, .int (Int32.ofInt x1)] : List Value).toArray below meth c H locs 0 0 Q (F0 m 50 ls []) := by
            clear hf hl hP hD hS
            intro w26 w27 w28 w29 ls H locs hl hP hD hS hf
            replace hf := jn4_s eJ30 hf
            refine lv_aload_n hx hb dX1_leastSpread_50 rfl (lv_at hl 1 rfl) ?_
            have hq := bd2_s hf
            clear hf
            obtain ⟨z31, w32, hcall, hf⟩ := hq
            refine gsV (ws' := [(a_p0, .inr (1, [.ref a_p0_kitchen, .ref a_p0_pots, .ref a_p0_sums, .ref a_p0_kings, .ref a_p0_bones, .ref a_p0_row, .ref a_p0_bestRow, .int (Int32.ofInt z2), .int (Int32.ofInt z31)])), (a_p0_kitchen, .inr (2, [.ref a_p0_kitchen_rules, .ref a_p0_kitchen_state, .ref a_p0_kitchen_places, .ref a_p0_kitchen_holders, .ref a_p0_kitchen_stirred])), (a_p0_kitchen_rules, .inr (6, [.int (Int32.ofInt i_p0_kitchen_rules_seats), .int (Int32.ofInt i_p0_kitchen_rules_stirs), .ref a_p0_kitchen_rules_need, .ref a_p0_kitchen_rules_kind, .ref a_p0_kitchen_rules_first, .ref a_p0_kitchen_rules_second, .ref a_p0_kitchen_rules_after])), (a_p0_kitchen_rules_after, .inl (G 1, 35, .inl (zA v_p0_kitchen_rules_after))), (a_p0_kitchen_state, .inr (8, [.ref a_p0_kitchen_state_pieces, .ref a_p0_kitchen_state_friends, .ref a_p0_kitchen_state_spoons, .ref a_p0_kitchen_state_eaten, .ref a_p0_kitchen_state_seen, .int (Int32.ofInt i_p0_kitchen_state_seenDays), .int (Int32.ofInt i_p0_kitchen_state_bone), .int (Int32.ofInt i_p0_kitchen_state_king), .int (Int32.ofInt i_p0_kitchen_state_days)])), (a_p0_kitchen_state_pieces, .inl (G 1, 7, .inl (zA v_p0_kitchen_state_pieces))), (a_p0_kitchen_state_friends, .inl (G 1, 7, .inl (zA v_p0_kitchen_state_friends))), (a_p0_kitchen_places, .inl (G 1, 49, .inl (zA w4))), (a_p0_kitchen_holders, .inl (G 1, 49, .inl (zA w5))), (a_p0_pots, .inl (G 1, 35, .inl (zA w26))), (a_p0_sums, .inl (G 1, 35, .inl (zA w27))), (a_p0_kings, .inl (G 1, 5, .inl (zA w28))), (a_p0_bones, .inl (G 1, 5, .inl (zA w29))), (a_p0_row, .inl (G 1, 4, .inl (zA w20))), (a_p0_bestRow, .inl (G 1, 4, .inl (zA w32)))]) (va_runV (As := []) (rest := []) ⟨hx, hb, hml, hown, hts⟩ (c_X1_weigh (l := l) (D := D) (G := G) (sz := H.size) (a_p0 := a_p0) (a_p0_kitchen := a_p0_kitchen) (a_p0_pots := a_p0_pots) (a_p0_sums := a_p0_sums) (a_p0_kings := a_p0_kings) (a_p0_bones := a_p0_bones) (a_p0_row := a_p0_row) (a_p0_bestRow := a_p0_bestRow) (a_p0_kitchen_rules := a_p0_kitchen_rules) (a_p0_kitchen_state := a_p0_kitchen_state) (a_p0_kitchen_places := a_p0_kitchen_places) (a_p0_kitchen_holders := a_p0_kitchen_holders) (a_p0_kitchen_stirred := a_p0_kitchen_stirred) (a_p0_kitchen_rules_need := a_p0_kitchen_rules_need) (a_p0_kitchen_rules_kind := a_p0_kitchen_rules_kind) (a_p0_kitchen_rules_first := a_p0_kitchen_rules_first) (a_p0_kitchen_rules_second := a_p0_kitchen_rules_second) (a_p0_kitchen_rules_after := a_p0_kitchen_rules_after) (i_p0_days := z2) (i_p0_least := z15) (i_p0_kitchen_rules_seats := i_p0_kitchen_rules_seats) (i_p0_kitchen_rules_stirs := i_p0_kitchen_rules_stirs) (v_p0_sums := w27) (v_p0_row := w20) (v_p0_bestRow := w21) (o_i_p0_least := z31) (o_v_p0_bestRow := w32) (hf := hcall)) (cwV 0 hts gX1_leastSpread_X1_weigh rfl rfl rfl hdV_yX1_weigh_RX1 ⟨Nat.le_of_ble_eq_true rfl, Nat.le_of_ble_eq_true rfl⟩) (preG_V (ci := 1) (q := (RX1, TX1, 9)) (hP.sub [0, 1, 2, 10, 13, 14] rfl) (hD.sub [0, 1, 2, 10, 13, 14] rfl rfl) hK rfl rfl) rfl rfl hl.1 rfl (lv_room (Nat.le_of_ble_eq_true rfl)) dX1_leastSpread_51 ⟨Nat.le_of_ble_eq_true rfl, Nat.le_of_ble_eq_true rfl⟩) hP hD hS hA [0, 1, 2, 10, 13, 14] rfl rfl rfl (fun H locs hP hD hS => ?_)
            clear hcall
            refine lv_aload_n hx hb dX1_leastSpread_54 rfl (lv_at hl 1 rfl) ?_
            have hq := bd2_s hf
            clear hf
            obtain ⟨z33, w34, hcall, hf⟩ := hq
            refine gsI (ws' := [(a_p0, .inr (1, [.ref a_p0_kitchen, .ref a_p0_pots, .ref a_p0_sums, .ref a_p0_kings, .ref a_p0_bones, .ref a_p0_row, .ref a_p0_bestRow, .int (Int32.ofInt z2), .int (Int32.ofInt z31)])), (a_p0_kitchen, .inr (2, [.ref a_p0_kitchen_rules, .ref a_p0_kitchen_state, .ref a_p0_kitchen_places, .ref a_p0_kitchen_holders, .ref a_p0_kitchen_stirred])), (a_p0_kitchen_rules, .inr (6, [.int (Int32.ofInt i_p0_kitchen_rules_seats), .int (Int32.ofInt i_p0_kitchen_rules_stirs), .ref a_p0_kitchen_rules_need, .ref a_p0_kitchen_rules_kind, .ref a_p0_kitchen_rules_first, .ref a_p0_kitchen_rules_second, .ref a_p0_kitchen_rules_after])), (a_p0_kitchen_rules_after, .inl (G 1, 35, .inl (zA v_p0_kitchen_rules_after))), (a_p0_kitchen_state, .inr (8, [.ref a_p0_kitchen_state_pieces, .ref a_p0_kitchen_state_friends, .ref a_p0_kitchen_state_spoons, .ref a_p0_kitchen_state_eaten, .ref a_p0_kitchen_state_seen, .int (Int32.ofInt i_p0_kitchen_state_seenDays), .int (Int32.ofInt i_p0_kitchen_state_bone), .int (Int32.ofInt i_p0_kitchen_state_king), .int (Int32.ofInt i_p0_kitchen_state_days)])), (a_p0_kitchen_state_pieces, .inl (G 1, 7, .inl (zA v_p0_kitchen_state_pieces))), (a_p0_kitchen_state_friends, .inl (G 1, 7, .inl (zA v_p0_kitchen_state_friends))), (a_p0_kitchen_places, .inl (G 1, 49, .inl (zA w4))), (a_p0_kitchen_holders, .inl (G 1, 49, .inl (zA w5))), (a_p0_pots, .inl (G 1, 35, .inl (zA w26))), (a_p0_sums, .inl (G 1, 35, .inl (zA w27))), (a_p0_kings, .inl (G 1, 5, .inl (zA w28))), (a_p0_bones, .inl (G 1, 5, .inl (zA w29))), (a_p0_row, .inl (G 1, 4, .inl (zA w34))), (a_p0_bestRow, .inl (G 1, 4, .inl (zA w32)))]) (va_runV (As := []) (rest := []) ⟨hx, hb, hml, hown, hts⟩ (c_X1_nextRow (l := l) (D := D) (G := G) (sz := H.size) (a_p0 := a_p0) (a_p0_kitchen := a_p0_kitchen) (a_p0_pots := a_p0_pots) (a_p0_sums := a_p0_sums) (a_p0_kings := a_p0_kings) (a_p0_bones := a_p0_bones) (a_p0_row := a_p0_row) (a_p0_bestRow := a_p0_bestRow) (a_p0_kitchen_rules := a_p0_kitchen_rules) (a_p0_kitchen_state := a_p0_kitchen_state) (a_p0_kitchen_places := a_p0_kitchen_places) (a_p0_kitchen_holders := a_p0_kitchen_holders) (a_p0_kitchen_stirred := a_p0_kitchen_stirred) (a_p0_kitchen_rules_need := a_p0_kitchen_rules_need) (a_p0_kitchen_rules_kind := a_p0_kitchen_rules_kind) (a_p0_kitchen_rules_first := a_p0_kitchen_rules_first) (a_p0_kitchen_rules_second := a_p0_kitchen_rules_second) (a_p0_kitchen_rules_after := a_p0_kitchen_rules_after) (i_p0_days := z2) (i_p0_least := z31) (i_p0_kitchen_rules_seats := i_p0_kitchen_rules_seats) (i_p0_kitchen_rules_stirs := i_p0_kitchen_rules_stirs) (v_p0_row := w20) (r := z33) (o_v_p0_row := w34) (hf := hcall)) (cwV 0 hts gX1_leastSpread_X1_nextRow rfl rfl rfl hdV_yX1_nextRow_RX1 ⟨Nat.le_of_ble_eq_true rfl, Nat.le_of_ble_eq_true rfl⟩) (preG_V (ci := 1) (q := (RX1, TX1, 9)) (hP.sub [0, 1, 2, 13] rfl) (hD.sub [0, 1, 2, 13] rfl rfl) hK rfl rfl) rfl rfl hl.1 rfl (lv_room (Nat.le_of_ble_eq_true rfl)) dX1_leastSpread_55 ⟨Nat.le_of_ble_eq_true rfl, Nat.le_of_ble_eq_true rfl⟩) hP hD hS hA [0, 1, 2, 13] rfl rfl rfl (fun H locs hP hD hS => ?_)
            clear hcall
            refine z_topi (fun z35 ez => ?_)
            replace hf := bnd_s hf ez
            clear ez
            refine lv_istore_n (lv' := [(2, .int (Int32.ofInt z35)), (3, .int (Int32.ofInt z13)), (0, .ref a_p0)]) hx hb dX1_leastSpread_58 rfl hl (by decide) rfl (fun ls hl => ?_)
            obtain ⟨z36, ez⟩ : ∃ y : Int, y = (z13 + (1 : Int)) := ⟨_, rfl⟩
            replace hf := bnd_s hf ez
            refine lv_iinc (v := Int32.ofInt z36) (lv' := [(3, .int (Int32.ofInt z36)), (2, .int (Int32.ofInt z35)), (0, .ref a_p0)]) hx hb dX1_leastSpread_59 hl (k := 1) rfl (by rw [ez]; exact (Int32.ofInt_add _ _).symm) (by decide) rfl (fun ls hl => ?_)
            clear ez
            refine lv_goto (tgt := 13) hx hb dX1_leastSpread_62 (by decide) ?_
            exact ih13 _ _ _ _ _ _ _ _ _ _ _ _ (lv_sub hl [0, 1, 2] rfl) hP hD hS hf
          have hq := lq5_i hf
          clear hf
          obtain ⟨B42, eB42, NB42, hf⟩ := hq
          have hB42 : ∀ (n : Nat) (z37 : Int) (w38 : (Int → Int)) (w39 : (Int → Int)) (w40 : (Int → Int)) (w41 : (Int → Int)) (ls : Array Slot) (H : Heap) (locs : List Loc), lv_has ls 5 [(4, .int (Int32.ofInt z37)), (3, .int (Int32.ofInt z13)), (0, .ref a_p0)] → va_P D vwCl [(a_p0, .inr (1, [.ref a_p0_kitchen, .ref a_p0_pots, .ref a_p0_sums, .ref a_p0_kings, .ref a_p0_bones, .ref a_p0_row, .ref a_p0_bestRow, .int (Int32.ofInt z2), .int (Int32.ofInt z15)])), (a_p0_kitchen, .inr (2, [.ref a_p0_kitchen_rules, .ref a_p0_kitchen_state, .ref a_p0_kitchen_places, .ref a_p0_kitchen_holders, .ref a_p0_kitchen_stirred])), (a_p0_kitchen_rules, .inr (6, [.int (Int32.ofInt i_p0_kitchen_rules_seats), .int (Int32.ofInt i_p0_kitchen_rules_stirs), .ref a_p0_kitchen_rules_need, .ref a_p0_kitchen_rules_kind, .ref a_p0_kitchen_rules_first, .ref a_p0_kitchen_rules_second, .ref a_p0_kitchen_rules_after])), (a_p0_kitchen_rules_after, .inl (G 1, 35, .inl (zA v_p0_kitchen_rules_after))), (a_p0_kitchen_state, .inr (8, [.ref a_p0_kitchen_state_pieces, .ref a_p0_kitchen_state_friends, .ref a_p0_kitchen_state_spoons, .ref a_p0_kitchen_state_eaten, .ref a_p0_kitchen_state_seen, .int (Int32.ofInt i_p0_kitchen_state_seenDays), .int (Int32.ofInt i_p0_kitchen_state_bone), .int (Int32.ofInt i_p0_kitchen_state_king), .int (Int32.ofInt i_p0_kitchen_state_days)])), (a_p0_kitchen_state_pieces, .inl (G 1, 7, .inl (zA v_p0_kitchen_state_pieces))), (a_p0_kitchen_state_friends, .inl (G 1, 7, .inl (zA v_p0_kitchen_state_friends))), (a_p0_kitchen_places, .inl (G 1, 49, .inl (zA w4))), (a_p0_kitchen_holders, .inl (G 1, 49, .inl (zA w5))), (a_p0_pots, .inl (G 1, 35, .inl (zA w38))), (a_p0_sums, .inl (G 1, 35, .inl (zA w39))), (a_p0_kings, .inl (G 1, 5, .inl (zA w40))), (a_p0_bones, .inl (G 1, 5, .inl (zA w41))), (a_p0_row, .inl (G 1, 4, .inl (zA w20))), (a_p0_bestRow, .inl (G 1, 4, .inl (zA w21)))] H → va_D A [(a_p0, .inr (1, [.ref a_p0_kitchen, .ref a_p0_pots, .ref a_p0_sums, .ref a_p0_kings, .ref a_p0_bones, .ref a_p0_row, .ref a_p0_bestRow, .int (Int32.ofInt z2), .int (Int32.ofInt z15)])), (a_p0_kitchen, .inr (2, [.ref a_p0_kitchen_rules, .ref a_p0_kitchen_state, .ref a_p0_kitchen_places, .ref a_p0_kitchen_holders, .ref a_p0_kitchen_stirred])), (a_p0_kitchen_rules, .inr (6, [.int (Int32.ofInt i_p0_kitchen_rules_seats), .int (Int32.ofInt i_p0_kitchen_rules_stirs), .ref a_p0_kitchen_rules_need, .ref a_p0_kitchen_rules_kind, .ref a_p0_kitchen_rules_first, .ref a_p0_kitchen_rules_second, .ref a_p0_kitchen_rules_after])), (a_p0_kitchen_rules_after, .inl (G 1, 35, .inl (zA v_p0_kitchen_rules_after))), (a_p0_kitchen_state, .inr (8, [.ref a_p0_kitchen_state_pieces, .ref a_p0_kitchen_state_friends, .ref a_p0_kitchen_state_spoons, .ref a_p0_kitchen_state_eaten, .ref a_p0_kitchen_state_seen, .int (Int32.ofInt i_p0_kitchen_state_seenDays), .int (Int32.ofInt i_p0_kitchen_state_bone), .int (Int32.ofInt i_p0_kitchen_state_king), .int (Int32.ofInt i_p0_kitchen_state_days)])), (a_p0_kitchen_state_pieces, .inl (G 1, 7, .inl (zA v_p0_kitchen_state_pieces))), (a_p0_kitchen_state_friends, .inl (G 1, 7, .inl (zA v_p0_kitchen_state_friends))), (a_p0_kitchen_places, .inl (G 1, 49, .inl (zA w4))), (a_p0_kitchen_holders, .inl (G 1, 49, .inl (zA w5))), (a_p0_pots, .inl (G 1, 35, .inl (zA w38))), (a_p0_sums, .inl (G 1, 35, .inl (zA w39))), (a_p0_kings, .inl (G 1, 5, .inl (zA w40))), (a_p0_bones, .inl (G 1, 5, .inl (zA w41))), (a_p0_row, .inl (G 1, 4, .inl (zA w20))), (a_p0_bestRow, .inl (G 1, 4, .inl (zA w21)))] → va_S A s.heap H locs → lq5 B42 n z37 w38 w39 w40 w41 = some (r, o_i_p0_days, o_i_p0_least, o_v_p0_kitchen_places, o_v_p0_kitchen_holders, o_v_p0_pots, o_v_p0_sums, o_v_p0_kings, o_v_p0_bones, o_v_p0_row, o_v_p0_bestRow) → W p l e rm_X1_leastSpread s m ([.ref a_p0, .int (Int32.ofInt x1)] : List Value).toArray below meth c H locs 0 0 Q (F0 m 29 ls []) := by
            clear hf hl hP hD hS
            intro n
            induction n with
            | zero =>
              intro z37 w38 w39 w40 w41 ls H locs hl hP hD hS hf
              exact (lq5_0 hf).elim
            | succ n ih29 =>
              intro z37 w38 w39 w40 w41 ls H locs hl hP hD hS hf
              replace hf := lq5_s eB42 hf
              unfold B_X1_leastSpread_29 at hf
              refine lv_iload hx hb dX1_leastSpread_29 (lv_at hl 0 rfl) ?_
              refine lv_aload_n hx hb dX1_leastSpread_31 rfl (lv_at hl 2 rfl) ?_
              refine va_get (D := D) (ci := 1) (v := .int (Int32.ofInt z2)) (C := RX1) (T := TX1) (N := 9) hx hb hts inX1_leastSpread_X1 hown hK hP 0 rfl rfl 7 (by decide) (hts _ mwX1_leastSpread_9) (fun _ h9 => h9) rfl dX1_leastSpread_32 ?_
              have hr42 := ck_c hf
              replace hf := ck_r hf
              have hr43 := ck_c hf
              replace hf := ck_r hf
              refine lv_icmp_ge (tgt := 50) hx hb dX1_leastSpread_35 (by decide) (fun cc => ?_) (fun cc => ?_)
              ·
                replace hf := ite_t ((z_le hr43 hr42).mp cc) hf
                clear cc
                exact hJ30 _ _ _ _ _ _ _ (lv_sub hl [1, 2] rfl) hP hD hS hf
              ·
                replace hf := ite_f (fun h9 => cc ((z_le hr43 hr42).mpr h9)) hf
                clear cc
                refine lv_aload_n hx hb dX1_leastSpread_38 rfl (lv_at hl 2 rfl) ?_
                refine lv_iload hx hb dX1_leastSpread_39 (lv_at hl 0 rfl) ?_
                have hq := bd4_s hf
                clear hf
                obtain ⟨w45, w46, w47, w48, hcall, hf⟩ := hq
                refine gcV (ws' := [(a_p0, .inr (1, [.ref a_p0_kitchen, .ref a_p0_pots, .ref a_p0_sums, .ref a_p0_kings, .ref a_p0_bones, .ref a_p0_row, .ref a_p0_bestRow, .int (Int32.ofInt z2), .int (Int32.ofInt z15)])), (a_p0_kitchen, .inr (2, [.ref a_p0_kitchen_rules, .ref a_p0_kitchen_state, .ref a_p0_kitchen_places, .ref a_p0_kitchen_holders, .ref a_p0_kitchen_stirred])), (a_p0_kitchen_rules, .inr (6, [.int (Int32.ofInt i_p0_kitchen_rules_seats), .int (Int32.ofInt i_p0_kitchen_rules_stirs), .ref a_p0_kitchen_rules_need, .ref a_p0_kitchen_rules_kind, .ref a_p0_kitchen_rules_first, .ref a_p0_kitchen_rules_second, .ref a_p0_kitchen_rules_after])), (a_p0_kitchen_rules_after, .inl (G 1, 35, .inl (zA v_p0_kitchen_rules_after))), (a_p0_kitchen_state, .inr (8, [.ref a_p0_kitchen_state_pieces, .ref a_p0_kitchen_state_friends, .ref a_p0_kitchen_state_spoons, .ref a_p0_kitchen_state_eaten, .ref a_p0_kitchen_state_seen, .int (Int32.ofInt i_p0_kitchen_state_seenDays), .int (Int32.ofInt i_p0_kitchen_state_bone), .int (Int32.ofInt i_p0_kitchen_state_king), .int (Int32.ofInt i_p0_kitchen_state_days)])), (a_p0_kitchen_state_pieces, .inl (G 1, 7, .inl (zA v_p0_kitchen_state_pieces))), (a_p0_kitchen_state_friends, .inl (G 1, 7, .inl (zA v_p0_kitchen_state_friends))), (a_p0_kitchen_places, .inl (G 1, 49, .inl (zA w4))), (a_p0_kitchen_holders, .inl (G 1, 49, .inl (zA w5))), (a_p0_pots, .inl (G 1, 35, .inl (zA w45))), (a_p0_sums, .inl (G 1, 35, .inl (zA w46))), (a_p0_kings, .inl (G 1, 5, .inl (zA w47))), (a_p0_bones, .inl (G 1, 5, .inl (zA w48))), (a_p0_row, .inl (G 1, 4, .inl (zA w20))), (a_p0_bestRow, .inl (G 1, 4, .inl (zA w21)))]) (va_runV (As := [.int (Int32.ofInt z37)]) (rest := []) ⟨hx, hb, hml, hown, hts⟩ (c_X1_goOn (l := l) (D := D) (G := G) (sz := H.size) (a_p0 := a_p0) (a_p0_kitchen := a_p0_kitchen) (a_p0_pots := a_p0_pots) (a_p0_sums := a_p0_sums) (a_p0_kings := a_p0_kings) (a_p0_bones := a_p0_bones) (a_p0_row := a_p0_row) (a_p0_bestRow := a_p0_bestRow) (a_p0_kitchen_rules := a_p0_kitchen_rules) (a_p0_kitchen_state := a_p0_kitchen_state) (a_p0_kitchen_places := a_p0_kitchen_places) (a_p0_kitchen_holders := a_p0_kitchen_holders) (a_p0_kitchen_stirred := a_p0_kitchen_stirred) (a_p0_kitchen_rules_need := a_p0_kitchen_rules_need) (a_p0_kitchen_rules_kind := a_p0_kitchen_rules_kind) (a_p0_kitchen_rules_first := a_p0_kitchen_rules_first) (a_p0_kitchen_rules_second := a_p0_kitchen_rules_second) (a_p0_kitchen_rules_after := a_p0_kitchen_rules_after) (i_p0_days := z2) (i_p0_least := z15) (i_p0_kitchen_rules_seats := i_p0_kitchen_rules_seats) (i_p0_kitchen_rules_stirs := i_p0_kitchen_rules_stirs) (v_p0_kitchen_rules_after := v_p0_kitchen_rules_after) (v_p0_kitchen_places := w4) (v_p0_kitchen_holders := w5) (v_p0_pots := w38) (v_p0_sums := w39) (v_p0_kings := w40) (v_p0_bones := w41) (v_p0_row := w20) (x1 := z37) (o_v_p0_pots := w45) (o_v_p0_sums := w46) (o_v_p0_kings := w47) (o_v_p0_bones := w48) (hf := hcall)) (cwV 1 hts gX1_leastSpread_X1_goOn rfl rfl rfl hdV_yX1_goOn_RX1 ⟨Nat.le_of_ble_eq_true rfl, Nat.le_of_ble_eq_true rfl⟩) (preG_V (ci := 1) (q := (RX1, TX1, 9)) (hP.sub [0, 1, 2, 3, 7, 8, 9, 10, 11, 12, 13] rfl) (hD.sub [0, 1, 2, 3, 7, 8, 9, 10, 11, 12, 13] rfl rfl) hK rfl rfl) rfl rfl hl.1 rfl (lv_room (Nat.le_of_ble_eq_true rfl)) dX1_leastSpread_41 ⟨Nat.le_of_ble_eq_true rfl, Nat.le_of_ble_eq_true rfl⟩) hP hD hS hA [0, 1, 2, 3, 7, 8, 9, 10, 11, 12, 13] [4, 5, 6, 14] [4, 5, 6, 7, 0, 1, 2, 8, 9, 10, 11, 12, 13, 14, 3] rfl rfl rfl (by decide) rfl rfl rfl (fun H locs hP hD hS => ?_)
                clear hcall
                obtain ⟨z49, ez⟩ : ∃ y : Int, y = (z37 + (1 : Int)) := ⟨_, rfl⟩
                replace hf := bnd_s hf ez
                refine lv_iinc (v := Int32.ofInt z49) (lv' := [(4, .int (Int32.ofInt z49)), (3, .int (Int32.ofInt z13)), (0, .ref a_p0)]) hx hb dX1_leastSpread_44 hl (k := 0) rfl (by rw [ez]; exact (Int32.ofInt_add _ _).symm) (by decide) rfl (fun ls hl => ?_)
                clear ez
                refine lv_goto (tgt := 29) hx hb dX1_leastSpread_47 (by decide) ?_
                exact ih29 _ _ _ _ _ _ _ _ (lv_sub hl [0, 1, 2] rfl) hP hD hS hf
          exact hB42 _ _ _ _ _ _ _ _ _ (lv_sub hl [0, 1, 3] rfl) hP hD hS hf
  exact hB22 _ _ _ _ _ _ _ _ _ _ _ _ _ (lv_sub hl [0, 1, 2] rfl) hP hD hS hf

noncomputable def B_X6_stirInto_3 (i_p0_seats : Int) (v_p0_after : (Int → Int)) (x1 : Int) (n_p2 : Nat) (n_p3 : Nat) (v_p2 : (Int → Int)) (again3 : Int → (Int → Int) → Option ((Int → Int))) (z2 : Int) (w3 : (Int → Int)) : Option ((Int → Int)) := (ck (z_r32 z2) (ck (z_r32 i_p0_seats) (if i_p0_seats ≤ z2 then (some w3) else (bd1 (f_X6_placeAfter v_p0_after x1 z2) (fun (z7 : Int) => (ck (z_ix z2 n_p2) (ck (z_ix z7 n_p3) (bnd (z_up w3 z7 (v_p2 z2)) (fun (w8 : (Int → Int)) => (bnd (z2 + (1 : Int)) (fun (z9 : Int) => (again3 z9 w8))))))))))))
noncomputable def f_X6_stirInto (n_p2 : Nat) (n_p3 : Nat) (i_p0_seats : Int) (v_p0_after : (Int → Int)) (v_p2 : (Int → Int)) (v_p3 : (Int → Int)) (x1 : Int) : Option ((Int → Int)) := (bnd (0 : Int) (fun (z1 : Int) => (lq2 (B_X6_stirInto_3 i_p0_seats v_p0_after x1 n_p2 n_p3 v_p2) 1000 z1 v_p3)))
abbrev rm_X6_stirInto : Room := { frames := 1, cells := 0, slots := 0, locals := 22 }
theorem inX6_stirInto_X6 : ∀ w ∈ wsX60, w ∈ wsX6_stirInto := by first | exact fun w h => List.mem_cons_of_mem _ (List.mem_append_right _ h) | decide +kernel
theorem mwX6_stirInto_1 : Cond.fieldLink RX6 9 "LadleKings$Rules" "seats" "I" ∈ wsX6_stirInto := by first | exact List.mem_of_getElem? (i := 1) rfl | decide +kernel
set_option maxHeartbeats 8000000 in
set_option maxRecDepth 100000 in
theorem c_X6_stirInto (l : Launch) (D : va_G) (G : Nat → ClassId) (sz : Nat) (a_p0 : Nat) (a_p0_need : Nat) (a_p0_kind : Nat) (a_p0_first : Nat) (a_p0_second : Nat) (a_p0_after : Nat) (a_p2 : Nat) (a_p3 : Nat) (n_p2 : Nat) (n_p3 : Nat) (i_p0_seats : Int) (i_p0_stirs : Int) (v_p0_after : (Int → Int)) (v_p2 : (Int → Int)) (v_p3 : (Int → Int)) (x1 : Int) (o_v_p3 : (Int → Int)) (hf : f_X6_stirInto n_p2 n_p3 i_p0_seats v_p0_after v_p2 v_p3 x1 = some o_v_p3) : Met l yX6_stirInto wsX6_stirInto rm_X6_stirInto (pcG D G [.ref a_p0, .int (Int32.ofInt x1), .ref a_p2, .ref a_p3] sz [(a_p0, .inr (6, [.int (Int32.ofInt i_p0_seats), .int (Int32.ofInt i_p0_stirs), .ref a_p0_need, .ref a_p0_kind, .ref a_p0_first, .ref a_p0_second, .ref a_p0_after])), (a_p0_after, .inl (G 1, 35, .inl (zA v_p0_after))), (a_p2, .inl (G 1, n_p2, .inl (zA v_p2))), (a_p3, .inl (G 1, n_p3, .inl (zA v_p3)))]) (qcV D G [(a_p0, .inr (6, [.int (Int32.ofInt i_p0_seats), .int (Int32.ofInt i_p0_stirs), .ref a_p0_need, .ref a_p0_kind, .ref a_p0_first, .ref a_p0_second, .ref a_p0_after])), (a_p0_after, .inl (G 1, 35, .inl (zA v_p0_after))), (a_p2, .inl (G 1, n_p2, .inl (zA v_p2))), (a_p3, .inl (G 1, n_p3, .inl (zA o_v_p3)))] (va_A [(a_p0, .inr (6, [.int (Int32.ofInt i_p0_seats), .int (Int32.ofInt i_p0_stirs), .ref a_p0_need, .ref a_p0_kind, .ref a_p0_first, .ref a_p0_second, .ref a_p0_after])), (a_p0_after, .inl (G 1, 35, .inl (zA v_p0_after))), (a_p2, .inl (G 1, n_p2, .inl (zA v_p2))), (a_p3, .inl (G 1, n_p3, .inl (zA v_p3)))] sz)) 0 0 (va_A [(a_p0, .inr (6, [.int (Int32.ofInt i_p0_seats), .int (Int32.ofInt i_p0_stirs), .ref a_p0_need, .ref a_p0_kind, .ref a_p0_first, .ref a_p0_second, .ref a_p0_after])), (a_p0_after, .inl (G 1, 35, .inl (zA v_p0_after))), (a_p2, .inl (G 1, n_p2, .inl (zA v_p2))), (a_p3, .inl (G 1, n_p3, .inl (zA v_p3)))] sz) := by
  refine Met.ofW (cc := cX6_stirInto) (maxL := 5) (ret := none) (by decide) rfl ?_
  intro p e s m args below meth c s₁ B hml hv
  obtain ⟨rfl, hsz, hP, hK, hD0⟩ := hv
  have hx := B.exec
  have hb := B.bytes
  have hr := B.returns
  have hts := atoms_spec (ws := wsX6_stirInto) B.pre
  have hown : s.vm.findClass RX6 = some m.cls := findClass_of_methodNamed B.named
  have hlocks := B.notSynchronized
  subst hsz
  have hD := hD0.self (sz := s.heap.size)
  generalize hAe : va_A [(a_p0, .inr (6, [.int (Int32.ofInt i_p0_seats), .int (Int32.ofInt i_p0_stirs), .ref a_p0_need, .ref a_p0_kind, .ref a_p0_first, .ref a_p0_second, .ref a_p0_after])), (a_p0_after, .inl (G 1, 35, .inl (zA v_p0_after))), (a_p2, .inl (G 1, n_p2, .inl (zA v_p2))), (a_p3, .inl (G 1, n_p3, .inl (zA v_p3)))] s.heap.size = A at hD ⊢
  have hA : ∀ q : Nat, s.heap.size ≤ q → A q := fun q h => by rw [← hAe]; exact Or.inr h
  clear hAe hD0
  have hS : va_S A s.heap s.heap [] := va_S.rf
  have hl := lv_entry ([.ref a_p0, .int (Int32.ofInt x1), .ref a_p2, .ref a_p3]) (n := 5) (Nat.le_of_ble_eq_true rfl)
  rw [lg_entry_eq]
  generalize (lg_sl ([.ref a_p0, .int (Int32.ofInt x1), .ref a_p2, .ref a_p3]) ++ List.replicate (5 - (lg_sl ([.ref a_p0, .int (Int32.ofInt x1), .ref a_p2, .ref a_p3])).length) Slot.unset).toArray = ls at hl ⊢
  have hl : lv_has ls 5 [(0, .ref a_p0), (1, .int (Int32.ofInt x1)), (2, .ref a_p2), (3, .ref a_p3)] := hl
  refine W_nameQ (fun Q hQ => ?_)
  obtain ⟨H, hH⟩ : ∃ H, H = s.heap := ⟨_, rfl⟩
  replace hS : va_S A s.heap H [] := by rw [hH]; exact hS
  replace hP : va_P D vwCl [(a_p0, .inr (6, [.int (Int32.ofInt i_p0_seats), .int (Int32.ofInt i_p0_stirs), .ref a_p0_need, .ref a_p0_kind, .ref a_p0_first, .ref a_p0_second, .ref a_p0_after])), (a_p0_after, .inl (G 1, 35, .inl (zA v_p0_after))), (a_p2, .inl (G 1, n_p2, .inl (zA v_p2))), (a_p3, .inl (G 1, n_p3, .inl (zA v_p3)))] H := by rw [hH]; exact hP
  rw [← hH]
  clear hH
  unfold f_X6_stirInto at hf
  refine lv_iconst (v := Int32.ofInt (0 : Int)) hx hb dX6_stirInto_0 (by decide) ?_
  refine z_topi (fun z1 ez => ?_)
  replace hf := bnd_s hf ez
  clear ez
  refine lv_istore (lv' := [(4, .int (Int32.ofInt z1)), (0, .ref a_p0), (1, .int (Int32.ofInt x1)), (2, .ref a_p2), (3, .ref a_p3)]) hx hb dX6_stirInto_1 hl (by decide) rfl (fun ls hl => ?_)
  have hq := lq2_i hf
  clear hf
  obtain ⟨B4, eB4, NB4, hf⟩ := hq
  have hB4 : ∀ (n : Nat) (z2 : Int) (w3 : (Int → Int)) (ls : Array Slot) (H : Heap) (locs : List Loc), lv_has ls 5 [(4, .int (Int32.ofInt z2)), (0, .ref a_p0), (1, .int (Int32.ofInt x1)), (2, .ref a_p2), (3, .ref a_p3)] → va_P D vwCl [(a_p0, .inr (6, [.int (Int32.ofInt i_p0_seats), .int (Int32.ofInt i_p0_stirs), .ref a_p0_need, .ref a_p0_kind, .ref a_p0_first, .ref a_p0_second, .ref a_p0_after])), (a_p0_after, .inl (G 1, 35, .inl (zA v_p0_after))), (a_p2, .inl (G 1, n_p2, .inl (zA v_p2))), (a_p3, .inl (G 1, n_p3, .inl (zA w3)))] H → va_D A [(a_p0, .inr (6, [.int (Int32.ofInt i_p0_seats), .int (Int32.ofInt i_p0_stirs), .ref a_p0_need, .ref a_p0_kind, .ref a_p0_first, .ref a_p0_second, .ref a_p0_after])), (a_p0_after, .inl (G 1, 35, .inl (zA v_p0_after))), (a_p2, .inl (G 1, n_p2, .inl (zA v_p2))), (a_p3, .inl (G 1, n_p3, .inl (zA w3)))] → va_S A s.heap H locs → lq2 B4 n z2 w3 = some o_v_p3 → W p l e rm_X6_stirInto s m ([.ref a_p0, .int (Int32.ofInt x1), .ref a_p2, .ref a_p3] : List Value).toArray below meth c H locs 0 0 Q (F0 m 3 ls []) := by
    clear hf hl hP hD hS
    intro n
    induction n with
    | zero =>
      intro z2 w3 ls H locs hl hP hD hS hf
      exact (lq2_0 hf).elim
    | succ n ih3 =>
      intro z2 w3 ls H locs hl hP hD hS hf
      replace hf := lq2_s eB4 hf
      unfold B_X6_stirInto_3 at hf
      refine lv_iload hx hb dX6_stirInto_3 (lv_at hl 0 rfl) ?_
      refine lv_aload_n hx hb dX6_stirInto_5 rfl (lv_at hl 1 rfl) ?_
      refine va_get (D := D) (ci := 6) (v := .int (Int32.ofInt i_p0_seats)) (C := RX6) (T := TX6) (N := 7) hx hb hts inX6_stirInto_X6 hown hK hP 0 rfl rfl 0 (by decide) (hts _ mwX6_stirInto_1) (fun _ h9 => h9) rfl dX6_stirInto_6 ?_
      have hr4 := ck_c hf
      replace hf := ck_r hf
      have hr5 := ck_c hf
      replace hf := ck_r hf
      refine lv_icmp_ge (tgt := 31) hx hb dX6_stirInto_9 (by decide) (fun cc => ?_) (fun cc => ?_)
      ·
        replace hf := ite_t ((z_le hr5 hr4).mp cc) hf
        clear cc
        obtain rfl := ou1 hf
        rw [hQ]
        exact W.vret hx hb hr (fun t ht hW => ⟨⟨(), rfl, trivial, by rw [ht]; exact hP, va_K.moved hW.alike hK, hD⟩, hS.F ht⟩) hS.2.2 dX6_stirInto_31
      ·
        replace hf := ite_f (fun h9 => cc ((z_le hr5 hr4).mpr h9)) hf
        clear cc
        refine lv_aload_n hx hb dX6_stirInto_12 rfl (lv_at hl 4 rfl) ?_
        refine lv_aload_n hx hb dX6_stirInto_13 rfl (lv_at hl 1 rfl) ?_
        refine lv_iload_n hx hb dX6_stirInto_14 rfl (lv_at hl 2 rfl) ?_
        refine lv_iload hx hb dX6_stirInto_15 (lv_at hl 0 rfl) ?_
        have hq := bd1_s hf
        clear hf
        obtain ⟨z7, hcall, hf⟩ := hq
        refine gnI (va_runV (As := [.int (Int32.ofInt x1), .int (Int32.ofInt z2)]) (rest := [.ref a_p3]) ⟨hx, hb, hml, hown, hts⟩ (c_X6_placeAfter (l := l) (D := D) (G := G) (sz := H.size) (a_p0 := a_p0) (a_p0_need := a_p0_need) (a_p0_kind := a_p0_kind) (a_p0_first := a_p0_first) (a_p0_second := a_p0_second) (a_p0_after := a_p0_after) (i_p0_seats := i_p0_seats) (i_p0_stirs := i_p0_stirs) (v_p0_after := v_p0_after) (x1 := x1) (x2 := z2) (r := z7) (hf := hcall)) (cwV 2 hts gX6_stirInto_X6_placeAfter rfl rfl rfl hdV_yX6_placeAfter_RX6 ⟨Nat.le_of_ble_eq_true rfl, Nat.le_of_ble_eq_true rfl⟩) (preG_V (ci := 6) (q := (RX6, TX6, 7)) (hP.sub [0, 1] rfl) (hD.sub [0, 1] rfl rfl) hK rfl rfl) rfl rfl hl.1 rfl (lv_room (Nat.le_of_ble_eq_true rfl)) dX6_stirInto_17 ⟨Nat.le_of_ble_eq_true rfl, Nat.le_of_ble_eq_true rfl⟩) hP hD hS hA [0, 1] rfl (fun H locs hP hD hS => ?_)
        clear hcall
        refine lv_aload_n hx hb dX6_stirInto_20 rfl (lv_at hl 3 rfl) ?_
        refine lv_iload hx hb dX6_stirInto_21 (lv_at hl 0 rfl) ?_
        have hc := ck_c hf
        replace hf := ck_r hf
        refine va_iald hx hb hK hP 2 1 rfl rfl (z_ix_in hc) dX6_stirInto_23 (z_ci (z_ald v_p2 hc) ?_)
        clear hc
        have hc := ck_c hf
        replace hf := ck_r hf
        refine zs_iast (wf := fun w8 => [(a_p0, .inr (6, [.int (Int32.ofInt i_p0_seats), .int (Int32.ofInt i_p0_stirs), .ref a_p0_need, .ref a_p0_kind, .ref a_p0_first, .ref a_p0_second, .ref a_p0_after])), (a_p0_after, .inl (G 1, 35, .inl (zA v_p0_after))), (a_p2, .inl (G 1, n_p2, .inl (zA v_p2))), (a_p3, .inl (G 1, n_p3, .inl (zA w8)))]) hx hb hK hP hD hS 3 1 rfl rfl hc dX6_stirInto_24 (fun _ => rfl) (fun w8 ez H locs hP hD hS => ?_)
        replace hf := bnd_s hf ez
        clear ez hc
        obtain ⟨z9, ez⟩ : ∃ y : Int, y = (z2 + (1 : Int)) := ⟨_, rfl⟩
        replace hf := bnd_s hf ez
        refine lv_iinc (v := Int32.ofInt z9) (lv' := [(4, .int (Int32.ofInt z9)), (0, .ref a_p0), (1, .int (Int32.ofInt x1)), (2, .ref a_p2), (3, .ref a_p3)]) hx hb dX6_stirInto_25 hl (k := 0) rfl (by rw [ez]; exact (Int32.ofInt_add _ _).symm) (by decide) rfl (fun ls hl => ?_)
        clear ez
        refine lv_goto (tgt := 3) hx hb dX6_stirInto_28 (by decide) ?_
        exact ih3 _ _ _ _ _ (lv_sub hl [0, 1, 2, 3, 4] rfl) hP hD hS hf
  exact hB4 _ _ _ _ _ _ (lv_sub hl [0, 1, 2, 3, 4] rfl) hP hD hS hf

noncomputable def f_X2_stirPot (i_p0_rules_seats : Int) (v_p0_rules_after : (Int → Int)) (v_p0_state_pieces : (Int → Int)) (v_p0_stirred : (Int → Int)) (x1 : Int) : Option ((Int → Int)) := (bd1 (f_X6_stirInto 7 7 i_p0_rules_seats v_p0_rules_after v_p0_state_pieces v_p0_stirred x1) (fun (w1 : (Int → Int)) => (some w1)))
abbrev rm_X2_stirPot : Room := { frames := 2, cells := 0, slots := 0, locals := 46 }
theorem inX2_stirPot_X2 : ∀ w ∈ wsX20, w ∈ wsX2_stirPot := by first | exact fun w h => List.mem_cons_of_mem _ (List.mem_append_left _ (List.mem_append_left _ (List.mem_append_right _ h))) | decide +kernel
theorem mwX2_stirPot_1 : Cond.fieldLink RX2 21 "LadleKings$Kitchen" "rules" "LLadleKings$Rules;" ∈ wsX2_stirPot := by first | exact List.mem_of_getElem? (i := 1) rfl | decide +kernel
theorem mwX2_stirPot_2 : Cond.fieldLink RX2 25 "LadleKings$Kitchen" "state" "LLadleKings$State;" ∈ wsX2_stirPot := by first | exact List.mem_of_getElem? (i := 2) rfl | decide +kernel
theorem inX2_stirPot_X8 : ∀ w ∈ wsX80, w ∈ wsX2_stirPot := by first | exact fun w h => List.mem_cons_of_mem _ (List.mem_append_left _ (List.mem_append_right _ h)) | decide +kernel
theorem mwX2_stirPot_4 : Cond.fieldLink RX2 49 "LadleKings$State" "pieces" "[I" ∈ wsX2_stirPot := by first | exact List.mem_of_getElem? (i := 3) rfl | decide +kernel
theorem mwX2_stirPot_5 : Cond.fieldLink RX2 18 "LadleKings$Kitchen" "stirred" "[I" ∈ wsX2_stirPot := by first | exact List.mem_of_getElem? (i := 4) rfl | decide +kernel
theorem hdV_yX6_stirInto_RX6 : yX6_stirInto.cls = RX6 ∧ yX6_stirInto.cls ≠ "java/lang/invoke/MethodHandle" ∧ yX6_stirInto.cls ≠ "java/lang/invoke/VarHandle" ∧ (parseMethodDescriptor yX6_stirInto.desc).map (fun d => d.parameters.length) = some 3 := by decide +kernel
set_option maxHeartbeats 8000000 in
set_option maxRecDepth 100000 in
theorem c_X2_stirPot (l : Launch) (D : va_G) (G : Nat → ClassId) (sz : Nat) (a_p0 : Nat) (a_p0_rules : Nat) (a_p0_state : Nat) (a_p0_places : Nat) (a_p0_holders : Nat) (a_p0_stirred : Nat) (a_p0_rules_need : Nat) (a_p0_rules_kind : Nat) (a_p0_rules_first : Nat) (a_p0_rules_second : Nat) (a_p0_rules_after : Nat) (a_p0_state_pieces : Nat) (a_p0_state_friends : Nat) (a_p0_state_spoons : Nat) (a_p0_state_eaten : Nat) (a_p0_state_seen : Nat) (i_p0_rules_seats : Int) (i_p0_rules_stirs : Int) (v_p0_rules_after : (Int → Int)) (i_p0_state_seenDays : Int) (i_p0_state_bone : Int) (i_p0_state_king : Int) (i_p0_state_days : Int) (v_p0_state_pieces : (Int → Int)) (v_p0_stirred : (Int → Int)) (x1 : Int) (o_v_p0_stirred : (Int → Int)) (hf : f_X2_stirPot i_p0_rules_seats v_p0_rules_after v_p0_state_pieces v_p0_stirred x1 = some o_v_p0_stirred) : Met l yX2_stirPot wsX2_stirPot rm_X2_stirPot (pcG D G [.ref a_p0, .int (Int32.ofInt x1)] sz [(a_p0, .inr (2, [.ref a_p0_rules, .ref a_p0_state, .ref a_p0_places, .ref a_p0_holders, .ref a_p0_stirred])), (a_p0_rules, .inr (6, [.int (Int32.ofInt i_p0_rules_seats), .int (Int32.ofInt i_p0_rules_stirs), .ref a_p0_rules_need, .ref a_p0_rules_kind, .ref a_p0_rules_first, .ref a_p0_rules_second, .ref a_p0_rules_after])), (a_p0_rules_after, .inl (G 1, 35, .inl (zA v_p0_rules_after))), (a_p0_state, .inr (8, [.ref a_p0_state_pieces, .ref a_p0_state_friends, .ref a_p0_state_spoons, .ref a_p0_state_eaten, .ref a_p0_state_seen, .int (Int32.ofInt i_p0_state_seenDays), .int (Int32.ofInt i_p0_state_bone), .int (Int32.ofInt i_p0_state_king), .int (Int32.ofInt i_p0_state_days)])), (a_p0_state_pieces, .inl (G 1, 7, .inl (zA v_p0_state_pieces))), (a_p0_stirred, .inl (G 1, 7, .inl (zA v_p0_stirred)))]) (qcV D G [(a_p0, .inr (2, [.ref a_p0_rules, .ref a_p0_state, .ref a_p0_places, .ref a_p0_holders, .ref a_p0_stirred])), (a_p0_rules, .inr (6, [.int (Int32.ofInt i_p0_rules_seats), .int (Int32.ofInt i_p0_rules_stirs), .ref a_p0_rules_need, .ref a_p0_rules_kind, .ref a_p0_rules_first, .ref a_p0_rules_second, .ref a_p0_rules_after])), (a_p0_rules_after, .inl (G 1, 35, .inl (zA v_p0_rules_after))), (a_p0_state, .inr (8, [.ref a_p0_state_pieces, .ref a_p0_state_friends, .ref a_p0_state_spoons, .ref a_p0_state_eaten, .ref a_p0_state_seen, .int (Int32.ofInt i_p0_state_seenDays), .int (Int32.ofInt i_p0_state_bone), .int (Int32.ofInt i_p0_state_king), .int (Int32.ofInt i_p0_state_days)])), (a_p0_state_pieces, .inl (G 1, 7, .inl (zA v_p0_state_pieces))), (a_p0_stirred, .inl (G 1, 7, .inl (zA o_v_p0_stirred)))] (va_A [(a_p0, .inr (2, [.ref a_p0_rules, .ref a_p0_state, .ref a_p0_places, .ref a_p0_holders, .ref a_p0_stirred])), (a_p0_rules, .inr (6, [.int (Int32.ofInt i_p0_rules_seats), .int (Int32.ofInt i_p0_rules_stirs), .ref a_p0_rules_need, .ref a_p0_rules_kind, .ref a_p0_rules_first, .ref a_p0_rules_second, .ref a_p0_rules_after])), (a_p0_rules_after, .inl (G 1, 35, .inl (zA v_p0_rules_after))), (a_p0_state, .inr (8, [.ref a_p0_state_pieces, .ref a_p0_state_friends, .ref a_p0_state_spoons, .ref a_p0_state_eaten, .ref a_p0_state_seen, .int (Int32.ofInt i_p0_state_seenDays), .int (Int32.ofInt i_p0_state_bone), .int (Int32.ofInt i_p0_state_king), .int (Int32.ofInt i_p0_state_days)])), (a_p0_state_pieces, .inl (G 1, 7, .inl (zA v_p0_state_pieces))), (a_p0_stirred, .inl (G 1, 7, .inl (zA v_p0_stirred)))] sz)) 0 0 (va_A [(a_p0, .inr (2, [.ref a_p0_rules, .ref a_p0_state, .ref a_p0_places, .ref a_p0_holders, .ref a_p0_stirred])), (a_p0_rules, .inr (6, [.int (Int32.ofInt i_p0_rules_seats), .int (Int32.ofInt i_p0_rules_stirs), .ref a_p0_rules_need, .ref a_p0_rules_kind, .ref a_p0_rules_first, .ref a_p0_rules_second, .ref a_p0_rules_after])), (a_p0_rules_after, .inl (G 1, 35, .inl (zA v_p0_rules_after))), (a_p0_state, .inr (8, [.ref a_p0_state_pieces, .ref a_p0_state_friends, .ref a_p0_state_spoons, .ref a_p0_state_eaten, .ref a_p0_state_seen, .int (Int32.ofInt i_p0_state_seenDays), .int (Int32.ofInt i_p0_state_bone), .int (Int32.ofInt i_p0_state_king), .int (Int32.ofInt i_p0_state_days)])), (a_p0_state_pieces, .inl (G 1, 7, .inl (zA v_p0_state_pieces))), (a_p0_stirred, .inl (G 1, 7, .inl (zA v_p0_stirred)))] sz) := by
  refine Met.ofW (cc := cX2_stirPot) (maxL := 2) (ret := none) (by decide) rfl ?_
  intro p e s m args below meth c s₁ B hml hv
  obtain ⟨rfl, hsz, hP, hK, hD0⟩ := hv
  have hx := B.exec
  have hb := B.bytes
  have hr := B.returns
  have hts := atoms_spec (ws := wsX2_stirPot) B.pre
  have hown : s.vm.findClass RX2 = some m.cls := findClass_of_methodNamed B.named
  have hlocks := B.notSynchronized
  subst hsz
  have hD := hD0.self (sz := s.heap.size)
  generalize hAe : va_A [(a_p0, .inr (2, [.ref a_p0_rules, .ref a_p0_state, .ref a_p0_places, .ref a_p0_holders, .ref a_p0_stirred])), (a_p0_rules, .inr (6, [.int (Int32.ofInt i_p0_rules_seats), .int (Int32.ofInt i_p0_rules_stirs), .ref a_p0_rules_need, .ref a_p0_rules_kind, .ref a_p0_rules_first, .ref a_p0_rules_second, .ref a_p0_rules_after])), (a_p0_rules_after, .inl (G 1, 35, .inl (zA v_p0_rules_after))), (a_p0_state, .inr (8, [.ref a_p0_state_pieces, .ref a_p0_state_friends, .ref a_p0_state_spoons, .ref a_p0_state_eaten, .ref a_p0_state_seen, .int (Int32.ofInt i_p0_state_seenDays), .int (Int32.ofInt i_p0_state_bone), .int (Int32.ofInt i_p0_state_king), .int (Int32.ofInt i_p0_state_days)])), (a_p0_state_pieces, .inl (G 1, 7, .inl (zA v_p0_state_pieces))), (a_p0_stirred, .inl (G 1, 7, .inl (zA v_p0_stirred)))] s.heap.size = A at hD ⊢
  have hA : ∀ q : Nat, s.heap.size ≤ q → A q := fun q h => by rw [← hAe]; exact Or.inr h
  clear hAe hD0
  have hS : va_S A s.heap s.heap [] := va_S.rf
  have hl := lv_entry ([.ref a_p0, .int (Int32.ofInt x1)]) (n := 2) (Nat.le_of_ble_eq_true rfl)
  rw [lg_entry_eq]
  generalize (lg_sl ([.ref a_p0, .int (Int32.ofInt x1)]) ++ List.replicate (2 - (lg_sl ([.ref a_p0, .int (Int32.ofInt x1)])).length) Slot.unset).toArray = ls at hl ⊢
  have hl : lv_has ls 2 [(0, .ref a_p0), (1, .int (Int32.ofInt x1))] := hl
  refine W_nameQ (fun Q hQ => ?_)
  obtain ⟨H, hH⟩ : ∃ H, H = s.heap := ⟨_, rfl⟩
  replace hS : va_S A s.heap H [] := by rw [hH]; exact hS
  replace hP : va_P D vwCl [(a_p0, .inr (2, [.ref a_p0_rules, .ref a_p0_state, .ref a_p0_places, .ref a_p0_holders, .ref a_p0_stirred])), (a_p0_rules, .inr (6, [.int (Int32.ofInt i_p0_rules_seats), .int (Int32.ofInt i_p0_rules_stirs), .ref a_p0_rules_need, .ref a_p0_rules_kind, .ref a_p0_rules_first, .ref a_p0_rules_second, .ref a_p0_rules_after])), (a_p0_rules_after, .inl (G 1, 35, .inl (zA v_p0_rules_after))), (a_p0_state, .inr (8, [.ref a_p0_state_pieces, .ref a_p0_state_friends, .ref a_p0_state_spoons, .ref a_p0_state_eaten, .ref a_p0_state_seen, .int (Int32.ofInt i_p0_state_seenDays), .int (Int32.ofInt i_p0_state_bone), .int (Int32.ofInt i_p0_state_king), .int (Int32.ofInt i_p0_state_days)])), (a_p0_state_pieces, .inl (G 1, 7, .inl (zA v_p0_state_pieces))), (a_p0_stirred, .inl (G 1, 7, .inl (zA v_p0_stirred)))] H := by rw [hH]; exact hP
  rw [← hH]
  clear hH
  unfold f_X2_stirPot at hf
  refine lv_aload_n hx hb dX2_stirPot_0 rfl (lv_at hl 0 rfl) ?_
  refine va_get (D := D) (ci := 2) (v := .ref a_p0_rules) (C := RX2) (T := TX2) (N := 5) hx hb hts inX2_stirPot_X2 hown hK hP 0 rfl rfl 0 (by decide) (hts _ mwX2_stirPot_1) (fun _ h9 => h9) rfl dX2_stirPot_1 ?_
  refine lv_iload_n hx hb dX2_stirPot_4 rfl (lv_at hl 1 rfl) ?_
  refine lv_aload_n hx hb dX2_stirPot_5 rfl (lv_at hl 0 rfl) ?_
  refine va_get (D := D) (ci := 2) (v := .ref a_p0_state) (C := RX2) (T := TX2) (N := 5) hx hb hts inX2_stirPot_X2 hown hK hP 0 rfl rfl 1 (by decide) (hts _ mwX2_stirPot_2) (fun _ h9 => h9) rfl dX2_stirPot_6 ?_
  refine va_get (D := D) (ci := 8) (v := .ref a_p0_state_pieces) (C := RX8) (T := TX8) (N := 9) hx hb hts inX2_stirPot_X8 hown hK hP 3 rfl rfl 0 (by decide) (hts _ mwX2_stirPot_4) (fun _ h9 => h9) rfl dX2_stirPot_9 ?_
  refine lv_aload_n hx hb dX2_stirPot_12 rfl (lv_at hl 0 rfl) ?_
  refine va_get (D := D) (ci := 2) (v := .ref a_p0_stirred) (C := RX2) (T := TX2) (N := 5) hx hb hts inX2_stirPot_X2 hown hK hP 0 rfl rfl 4 (by decide) (hts _ mwX2_stirPot_5) (fun _ h9 => h9) rfl dX2_stirPot_13 ?_
  have hq := bd1_s hf
  clear hf
  obtain ⟨w1, hcall, hf⟩ := hq
  refine gsV (ws' := [(a_p0, .inr (2, [.ref a_p0_rules, .ref a_p0_state, .ref a_p0_places, .ref a_p0_holders, .ref a_p0_stirred])), (a_p0_rules, .inr (6, [.int (Int32.ofInt i_p0_rules_seats), .int (Int32.ofInt i_p0_rules_stirs), .ref a_p0_rules_need, .ref a_p0_rules_kind, .ref a_p0_rules_first, .ref a_p0_rules_second, .ref a_p0_rules_after])), (a_p0_rules_after, .inl (G 1, 35, .inl (zA v_p0_rules_after))), (a_p0_state, .inr (8, [.ref a_p0_state_pieces, .ref a_p0_state_friends, .ref a_p0_state_spoons, .ref a_p0_state_eaten, .ref a_p0_state_seen, .int (Int32.ofInt i_p0_state_seenDays), .int (Int32.ofInt i_p0_state_bone), .int (Int32.ofInt i_p0_state_king), .int (Int32.ofInt i_p0_state_days)])), (a_p0_state_pieces, .inl (G 1, 7, .inl (zA v_p0_state_pieces))), (a_p0_stirred, .inl (G 1, 7, .inl (zA w1)))]) (va_runV (As := [.int (Int32.ofInt x1), .ref a_p0_state_pieces, .ref a_p0_stirred]) (rest := []) ⟨hx, hb, hml, hown, hts⟩ (c_X6_stirInto (l := l) (D := D) (G := G) (sz := H.size) (a_p0 := a_p0_rules) (a_p0_need := a_p0_rules_need) (a_p0_kind := a_p0_rules_kind) (a_p0_first := a_p0_rules_first) (a_p0_second := a_p0_rules_second) (a_p0_after := a_p0_rules_after) (a_p2 := a_p0_state_pieces) (a_p3 := a_p0_stirred) (n_p2 := 7) (n_p3 := 7) (i_p0_seats := i_p0_rules_seats) (i_p0_stirs := i_p0_rules_stirs) (v_p0_after := v_p0_rules_after) (v_p2 := v_p0_state_pieces) (v_p3 := v_p0_stirred) (x1 := x1) (o_v_p3 := w1) (hf := hcall)) (cwV 3 hts gX2_stirPot_X6_stirInto rfl rfl rfl hdV_yX6_stirInto_RX6 ⟨Nat.le_of_ble_eq_true rfl, Nat.le_of_ble_eq_true rfl⟩) (preG_V (ci := 6) (q := (RX6, TX6, 7)) (hP.sub [1, 2, 4, 5] rfl) (hD.sub [1, 2, 4, 5] rfl rfl) hK rfl rfl) rfl rfl hl.1 rfl (lv_room (Nat.le_of_ble_eq_true rfl)) dX2_stirPot_16 ⟨Nat.le_of_ble_eq_true rfl, Nat.le_of_ble_eq_true rfl⟩) hP hD hS hA [1, 2, 4, 5] rfl rfl rfl (fun H locs hP hD hS => ?_)
  clear hcall
  obtain rfl := ou1 hf
  rw [hQ]
  exact W.vret hx hb hr (fun t ht hW => ⟨⟨(), rfl, trivial, by rw [ht]; exact hP, va_K.moved hW.alike hK, hD⟩, hS.F ht⟩) hS.2.2 dX2_stirPot_19

noncomputable def B_X2_passDay_65 (i_p0_rules_seats : Int) (J10 : (Int → Int) → Option (Int × Int × Int × (Int → Int) × (Int → Int) × (Int → Int) × (Int → Int) × (Int → Int))) (w2 : (Int → Int)) (w4 : (Int → Int)) (z1 : Int) (again65 : Int → (Int → Int) → Option (Int × Int × Int × (Int → Int) × (Int → Int) × (Int → Int) × (Int → Int) × (Int → Int))) (z14 : Int) (w15 : (Int → Int)) : Option (Int × Int × Int × (Int → Int) × (Int → Int) × (Int → Int) × (Int → Int) × (Int → Int)) := (ck (z_r32 z14) (ck (z_r32 i_p0_rules_seats) (if i_p0_rules_seats ≤ z14 then (J10 w15) else (ck (z_ix z14 7) (bd1 (f_X2_bowlOf w2 w4 z1 z14) (fun (z19 : Int) => (ck (z_ix z14 7) (bnd (z_up w15 z14 ((w15 z14) + z19)) (fun (w20 : (Int → Int)) => (bnd (z14 + (1 : Int)) (fun (z21 : Int) => (again65 z21 w20))))))))))))
noncomputable def f_X2_passDay (i_p0_rules_seats : Int) (v_p0_rules_after : (Int → Int)) (i_p0_state_bone : Int) (i_p0_state_king : Int) (i_p0_state_days : Int) (v_p0_state_pieces : (Int → Int)) (v_p0_state_friends : (Int → Int)) (v_p0_state_eaten : (Int → Int)) (v_p0_places : (Int → Int)) (v_p0_holders : (Int → Int)) (v_p0_stirred : (Int → Int)) (x1 : Int) : Option (Int × Int × Int × (Int → Int) × (Int → Int) × (Int → Int) × (Int → Int) × (Int → Int)) := (bnd i_p0_state_king (fun (z1 : Int) => (bd2 (f_X2_serve i_p0_rules_seats v_p0_state_friends v_p0_places v_p0_holders z1) (fun (w2 : (Int → Int)) (w3 : (Int → Int)) => (bd1 (f_X2_stirPot i_p0_rules_seats v_p0_rules_after v_p0_state_pieces v_p0_stirred x1) (fun (w4 : (Int → Int)) => (ck (z_cp (0 : Int) i_p0_rules_seats 7) (ck (z_cp (0 : Int) i_p0_rules_seats 7) (bnd (z_cpy w4 v_p0_state_pieces (0 : Int) (0 : Int) i_p0_rules_seats) (fun (w5 : (Int → Int)) => (bd1 (f_X6_placeAfter v_p0_rules_after x1 i_p0_state_bone) (fun (z6 : Int) => (bnd z6 (fun (z7 : Int) => (bnd (0 : Int) (fun (z8 : Int) => (jn (fun (w9 : (Int → Int)) => (bd1 (f_X2_holderOf w3 z1 z7) (fun (z11 : Int) => (bnd z11 (fun (z12 : Int) => (bnd (i_p0_state_days + (1 : Int)) (fun (z13 : Int) => (some (z7, z12, z13, w5, w9, w2, w3, w4))))))))) (fun (J10 : (Int → Int) → Option (Int × Int × Int × (Int → Int) × (Int → Int) × (Int → Int) × (Int → Int) × (Int → Int))) => (lq2 (B_X2_passDay_65 i_p0_rules_seats J10 w2 w4 z1) 1000 z8 v_p0_state_eaten)))))))))))))))))))
abbrev rm_X2_passDay : Room := { frames := 3, cells := 0, slots := 0, locals := 67 }
theorem inX2_passDay_X2 : ∀ w ∈ wsX20, w ∈ wsX2_passDay := by first | exact fun w h => List.mem_cons_of_mem _ (List.mem_append_left _ (List.mem_append_left _ (List.mem_append_right _ h))) | decide +kernel
theorem mwX2_passDay_1 : Cond.fieldLink RX2 25 "LadleKings$Kitchen" "state" "LLadleKings$State;" ∈ wsX2_passDay := by first | exact List.mem_of_getElem? (i := 1) rfl | decide +kernel
theorem inX2_passDay_X8 : ∀ w ∈ wsX80, w ∈ wsX2_passDay := by first | exact fun w h => List.mem_cons_of_mem _ (List.mem_append_left _ (List.mem_append_right _ h)) | decide +kernel
theorem mwX2_passDay_3 : Cond.fieldLink RX2 60 "LadleKings$State" "king" "I" ∈ wsX2_passDay := by first | exact List.mem_of_getElem? (i := 2) rfl | decide +kernel
theorem hdV_yX2_stirPot_RX2 : yX2_stirPot.cls = RX2 ∧ yX2_stirPot.cls ≠ "java/lang/invoke/MethodHandle" ∧ yX2_stirPot.cls ≠ "java/lang/invoke/VarHandle" ∧ (parseMethodDescriptor yX2_stirPot.desc).map (fun d => d.parameters.length) = some 1 := by decide +kernel
theorem mwX2_passDay_5 : Cond.fieldLink RX2 18 "LadleKings$Kitchen" "stirred" "[I" ∈ wsX2_passDay := by first | exact List.mem_of_getElem? (i := 3) rfl | decide +kernel
theorem mwX2_passDay_6 : Cond.fieldLink RX2 49 "LadleKings$State" "pieces" "[I" ∈ wsX2_passDay := by first | exact List.mem_of_getElem? (i := 4) rfl | decide +kernel
theorem mwX2_passDay_7 : Cond.fieldLink RX2 21 "LadleKings$Kitchen" "rules" "LLadleKings$Rules;" ∈ wsX2_passDay := by first | exact List.mem_of_getElem? (i := 5) rfl | decide +kernel
theorem inX2_passDay_X6 : ∀ w ∈ wsX60, w ∈ wsX2_passDay := by first | exact fun w h => List.mem_cons_of_mem _ (List.mem_append_right _ h) | decide +kernel
theorem mwX2_passDay_9 : Cond.fieldLink RX2 29 "LadleKings$Rules" "seats" "I" ∈ wsX2_passDay := by first | exact List.mem_of_getElem? (i := 6) rfl | decide +kernel
theorem mwX2_passDay_10 : Cond.methodLink RX2 66 arraycopyName ∈ wsX2_passDay := by first | exact List.mem_of_getElem? (i := 7) rfl | decide +kernel
theorem mwX2_passDay_11 : Cond.native arraycopyName ∈ wsX2_passDay := by first | exact List.mem_of_getElem? (i := 8) rfl | decide +kernel
theorem mwX2_passDay_12 : Cond.static arraycopyName ∈ wsX2_passDay := by first | exact List.mem_of_getElem? (i := 9) rfl | decide +kernel
theorem mwX2_passDay_13 : Cond.initialized "java/lang/System" ∈ wsX2_passDay := by first | exact List.mem_of_getElem? (i := 10) rfl | decide +kernel
theorem mwX2_passDay_14 : Cond.fieldLink RX2 72 "LadleKings$State" "bone" "I" ∈ wsX2_passDay := by first | exact List.mem_of_getElem? (i := 11) rfl | decide +kernel
theorem mwX2_passDay_15 : Cond.fieldLink RX2 87 "LadleKings$State" "days" "I" ∈ wsX2_passDay := by first | exact List.mem_of_getElem? (i := 13) rfl | decide +kernel
theorem mwX2_passDay_16 : Cond.fieldLink RX2 78 "LadleKings$State" "eaten" "[I" ∈ wsX2_passDay := by first | exact List.mem_of_getElem? (i := 12) rfl | decide +kernel
set_option maxHeartbeats 8000000 in
set_option maxRecDepth 100000 in
theorem c_X2_passDay (l : Launch) (D : va_G) (G : Nat → ClassId) (sz : Nat) (a_p0 : Nat) (a_p0_rules : Nat) (a_p0_state : Nat) (a_p0_places : Nat) (a_p0_holders : Nat) (a_p0_stirred : Nat) (a_p0_rules_need : Nat) (a_p0_rules_kind : Nat) (a_p0_rules_first : Nat) (a_p0_rules_second : Nat) (a_p0_rules_after : Nat) (a_p0_state_pieces : Nat) (a_p0_state_friends : Nat) (a_p0_state_spoons : Nat) (a_p0_state_eaten : Nat) (a_p0_state_seen : Nat) (i_p0_rules_seats : Int) (i_p0_rules_stirs : Int) (v_p0_rules_after : (Int → Int)) (i_p0_state_seenDays : Int) (i_p0_state_bone : Int) (i_p0_state_king : Int) (i_p0_state_days : Int) (v_p0_state_pieces : (Int → Int)) (v_p0_state_friends : (Int → Int)) (v_p0_state_eaten : (Int → Int)) (v_p0_places : (Int → Int)) (v_p0_holders : (Int → Int)) (v_p0_stirred : (Int → Int)) (x1 : Int) (o_i_p0_state_bone : Int) (o_i_p0_state_king : Int) (o_i_p0_state_days : Int) (o_v_p0_state_pieces : (Int → Int)) (o_v_p0_state_eaten : (Int → Int)) (o_v_p0_places : (Int → Int)) (o_v_p0_holders : (Int → Int)) (o_v_p0_stirred : (Int → Int)) (hf : f_X2_passDay i_p0_rules_seats v_p0_rules_after i_p0_state_bone i_p0_state_king i_p0_state_days v_p0_state_pieces v_p0_state_friends v_p0_state_eaten v_p0_places v_p0_holders v_p0_stirred x1 = some (o_i_p0_state_bone, o_i_p0_state_king, o_i_p0_state_days, o_v_p0_state_pieces, o_v_p0_state_eaten, o_v_p0_places, o_v_p0_holders, o_v_p0_stirred)) : Met l yX2_passDay wsX2_passDay rm_X2_passDay (pcG D G [.ref a_p0, .int (Int32.ofInt x1)] sz [(a_p0, .inr (2, [.ref a_p0_rules, .ref a_p0_state, .ref a_p0_places, .ref a_p0_holders, .ref a_p0_stirred])), (a_p0_rules, .inr (6, [.int (Int32.ofInt i_p0_rules_seats), .int (Int32.ofInt i_p0_rules_stirs), .ref a_p0_rules_need, .ref a_p0_rules_kind, .ref a_p0_rules_first, .ref a_p0_rules_second, .ref a_p0_rules_after])), (a_p0_rules_after, .inl (G 1, 35, .inl (zA v_p0_rules_after))), (a_p0_state, .inr (8, [.ref a_p0_state_pieces, .ref a_p0_state_friends, .ref a_p0_state_spoons, .ref a_p0_state_eaten, .ref a_p0_state_seen, .int (Int32.ofInt i_p0_state_seenDays), .int (Int32.ofInt i_p0_state_bone), .int (Int32.ofInt i_p0_state_king), .int (Int32.ofInt i_p0_state_days)])), (a_p0_state_pieces, .inl (G 1, 7, .inl (zA v_p0_state_pieces))), (a_p0_state_friends, .inl (G 1, 7, .inl (zA v_p0_state_friends))), (a_p0_state_eaten, .inl (G 1, 7, .inl (zA v_p0_state_eaten))), (a_p0_places, .inl (G 1, 49, .inl (zA v_p0_places))), (a_p0_holders, .inl (G 1, 49, .inl (zA v_p0_holders))), (a_p0_stirred, .inl (G 1, 7, .inl (zA v_p0_stirred)))]) (qcV D G [(a_p0, .inr (2, [.ref a_p0_rules, .ref a_p0_state, .ref a_p0_places, .ref a_p0_holders, .ref a_p0_stirred])), (a_p0_rules, .inr (6, [.int (Int32.ofInt i_p0_rules_seats), .int (Int32.ofInt i_p0_rules_stirs), .ref a_p0_rules_need, .ref a_p0_rules_kind, .ref a_p0_rules_first, .ref a_p0_rules_second, .ref a_p0_rules_after])), (a_p0_rules_after, .inl (G 1, 35, .inl (zA v_p0_rules_after))), (a_p0_state, .inr (8, [.ref a_p0_state_pieces, .ref a_p0_state_friends, .ref a_p0_state_spoons, .ref a_p0_state_eaten, .ref a_p0_state_seen, .int (Int32.ofInt i_p0_state_seenDays), .int (Int32.ofInt o_i_p0_state_bone), .int (Int32.ofInt o_i_p0_state_king), .int (Int32.ofInt o_i_p0_state_days)])), (a_p0_state_pieces, .inl (G 1, 7, .inl (zA o_v_p0_state_pieces))), (a_p0_state_friends, .inl (G 1, 7, .inl (zA v_p0_state_friends))), (a_p0_state_eaten, .inl (G 1, 7, .inl (zA o_v_p0_state_eaten))), (a_p0_places, .inl (G 1, 49, .inl (zA o_v_p0_places))), (a_p0_holders, .inl (G 1, 49, .inl (zA o_v_p0_holders))), (a_p0_stirred, .inl (G 1, 7, .inl (zA o_v_p0_stirred)))] (va_A [(a_p0, .inr (2, [.ref a_p0_rules, .ref a_p0_state, .ref a_p0_places, .ref a_p0_holders, .ref a_p0_stirred])), (a_p0_rules, .inr (6, [.int (Int32.ofInt i_p0_rules_seats), .int (Int32.ofInt i_p0_rules_stirs), .ref a_p0_rules_need, .ref a_p0_rules_kind, .ref a_p0_rules_first, .ref a_p0_rules_second, .ref a_p0_rules_after])), (a_p0_rules_after, .inl (G 1, 35, .inl (zA v_p0_rules_after))), (a_p0_state, .inr (8, [.ref a_p0_state_pieces, .ref a_p0_state_friends, .ref a_p0_state_spoons, .ref a_p0_state_eaten, .ref a_p0_state_seen, .int (Int32.ofInt i_p0_state_seenDays), .int (Int32.ofInt i_p0_state_bone), .int (Int32.ofInt i_p0_state_king), .int (Int32.ofInt i_p0_state_days)])), (a_p0_state_pieces, .inl (G 1, 7, .inl (zA v_p0_state_pieces))), (a_p0_state_friends, .inl (G 1, 7, .inl (zA v_p0_state_friends))), (a_p0_state_eaten, .inl (G 1, 7, .inl (zA v_p0_state_eaten))), (a_p0_places, .inl (G 1, 49, .inl (zA v_p0_places))), (a_p0_holders, .inl (G 1, 49, .inl (zA v_p0_holders))), (a_p0_stirred, .inl (G 1, 7, .inl (zA v_p0_stirred)))] sz)) 0 0 (va_A [(a_p0, .inr (2, [.ref a_p0_rules, .ref a_p0_state, .ref a_p0_places, .ref a_p0_holders, .ref a_p0_stirred])), (a_p0_rules, .inr (6, [.int (Int32.ofInt i_p0_rules_seats), .int (Int32.ofInt i_p0_rules_stirs), .ref a_p0_rules_need, .ref a_p0_rules_kind, .ref a_p0_rules_first, .ref a_p0_rules_second, .ref a_p0_rules_after])), (a_p0_rules_after, .inl (G 1, 35, .inl (zA v_p0_rules_after))), (a_p0_state, .inr (8, [.ref a_p0_state_pieces, .ref a_p0_state_friends, .ref a_p0_state_spoons, .ref a_p0_state_eaten, .ref a_p0_state_seen, .int (Int32.ofInt i_p0_state_seenDays), .int (Int32.ofInt i_p0_state_bone), .int (Int32.ofInt i_p0_state_king), .int (Int32.ofInt i_p0_state_days)])), (a_p0_state_pieces, .inl (G 1, 7, .inl (zA v_p0_state_pieces))), (a_p0_state_friends, .inl (G 1, 7, .inl (zA v_p0_state_friends))), (a_p0_state_eaten, .inl (G 1, 7, .inl (zA v_p0_state_eaten))), (a_p0_places, .inl (G 1, 49, .inl (zA v_p0_places))), (a_p0_holders, .inl (G 1, 49, .inl (zA v_p0_holders))), (a_p0_stirred, .inl (G 1, 7, .inl (zA v_p0_stirred)))] sz) := by
  refine Met.ofW (cc := cX2_passDay) (maxL := 4) (ret := none) (by decide) rfl ?_
  intro p e s m args below meth c s₁ B hml hv
  obtain ⟨rfl, hsz, hP, hK, hD0⟩ := hv
  have hx := B.exec
  have hb := B.bytes
  have hr := B.returns
  have hts := atoms_spec (ws := wsX2_passDay) B.pre
  have hown : s.vm.findClass RX2 = some m.cls := findClass_of_methodNamed B.named
  have hlocks := B.notSynchronized
  subst hsz
  have hD := hD0.self (sz := s.heap.size)
  generalize hAe : va_A [(a_p0, .inr (2, [.ref a_p0_rules, .ref a_p0_state, .ref a_p0_places, .ref a_p0_holders, .ref a_p0_stirred])), (a_p0_rules, .inr (6, [.int (Int32.ofInt i_p0_rules_seats), .int (Int32.ofInt i_p0_rules_stirs), .ref a_p0_rules_need, .ref a_p0_rules_kind, .ref a_p0_rules_first, .ref a_p0_rules_second, .ref a_p0_rules_after])), (a_p0_rules_after, .inl (G 1, 35, .inl (zA v_p0_rules_after))), (a_p0_state, .inr (8, [.ref a_p0_state_pieces, .ref a_p0_state_friends, .ref a_p0_state_spoons, .ref a_p0_state_eaten, .ref a_p0_state_seen, .int (Int32.ofInt i_p0_state_seenDays), .int (Int32.ofInt i_p0_state_bone), .int (Int32.ofInt i_p0_state_king), .int (Int32.ofInt i_p0_state_days)])), (a_p0_state_pieces, .inl (G 1, 7, .inl (zA v_p0_state_pieces))), (a_p0_state_friends, .inl (G 1, 7, .inl (zA v_p0_state_friends))), (a_p0_state_eaten, .inl (G 1, 7, .inl (zA v_p0_state_eaten))), (a_p0_places, .inl (G 1, 49, .inl (zA v_p0_places))), (a_p0_holders, .inl (G 1, 49, .inl (zA v_p0_holders))), (a_p0_stirred, .inl (G 1, 7, .inl (zA v_p0_stirred)))] s.heap.size = A at hD ⊢
  have hA : ∀ q : Nat, s.heap.size ≤ q → A q := fun q h => by rw [← hAe]; exact Or.inr h
  clear hAe hD0
  have hS : va_S A s.heap s.heap [] := va_S.rf
  have hl := lv_entry ([.ref a_p0, .int (Int32.ofInt x1)]) (n := 4) (Nat.le_of_ble_eq_true rfl)
  rw [lg_entry_eq]
  generalize (lg_sl ([.ref a_p0, .int (Int32.ofInt x1)]) ++ List.replicate (4 - (lg_sl ([.ref a_p0, .int (Int32.ofInt x1)])).length) Slot.unset).toArray = ls at hl ⊢
  have hl : lv_has ls 4 [(0, .ref a_p0), (1, .int (Int32.ofInt x1))] := hl
  refine W_nameQ (fun Q hQ => ?_)
  obtain ⟨H, hH⟩ : ∃ H, H = s.heap := ⟨_, rfl⟩
  replace hS : va_S A s.heap H [] := by rw [hH]; exact hS
  replace hP : va_P D vwCl [(a_p0, .inr (2, [.ref a_p0_rules, .ref a_p0_state, .ref a_p0_places, .ref a_p0_holders, .ref a_p0_stirred])), (a_p0_rules, .inr (6, [.int (Int32.ofInt i_p0_rules_seats), .int (Int32.ofInt i_p0_rules_stirs), .ref a_p0_rules_need, .ref a_p0_rules_kind, .ref a_p0_rules_first, .ref a_p0_rules_second, .ref a_p0_rules_after])), (a_p0_rules_after, .inl (G 1, 35, .inl (zA v_p0_rules_after))), (a_p0_state, .inr (8, [.ref a_p0_state_pieces, .ref a_p0_state_friends, .ref a_p0_state_spoons, .ref a_p0_state_eaten, .ref a_p0_state_seen, .int (Int32.ofInt i_p0_state_seenDays), .int (Int32.ofInt i_p0_state_bone), .int (Int32.ofInt i_p0_state_king), .int (Int32.ofInt i_p0_state_days)])), (a_p0_state_pieces, .inl (G 1, 7, .inl (zA v_p0_state_pieces))), (a_p0_state_friends, .inl (G 1, 7, .inl (zA v_p0_state_friends))), (a_p0_state_eaten, .inl (G 1, 7, .inl (zA v_p0_state_eaten))), (a_p0_places, .inl (G 1, 49, .inl (zA v_p0_places))), (a_p0_holders, .inl (G 1, 49, .inl (zA v_p0_holders))), (a_p0_stirred, .inl (G 1, 7, .inl (zA v_p0_stirred)))] H := by rw [hH]; exact hP
  rw [← hH]
  clear hH
  unfold f_X2_passDay at hf
  refine lv_aload_n hx hb dX2_passDay_0 rfl (lv_at hl 0 rfl) ?_
  refine va_get (D := D) (ci := 2) (v := .ref a_p0_state) (C := RX2) (T := TX2) (N := 5) hx hb hts inX2_passDay_X2 hown hK hP 0 rfl rfl 1 (by decide) (hts _ mwX2_passDay_1) (fun _ h9 => h9) rfl dX2_passDay_1 ?_
  refine va_get (D := D) (ci := 8) (v := .int (Int32.ofInt i_p0_state_king)) (C := RX8) (T := TX8) (N := 9) hx hb hts inX2_passDay_X8 hown hK hP 3 rfl rfl 7 (by decide) (hts _ mwX2_passDay_3) (fun _ h9 => h9) rfl dX2_passDay_4 ?_
  refine z_topi (fun z1 ez => ?_)
  replace hf := bnd_s hf ez
  clear ez
  refine lv_istore_n (lv' := [(2, .int (Int32.ofInt z1)), (0, .ref a_p0), (1, .int (Int32.ofInt x1))]) hx hb dX2_passDay_7 rfl hl (by decide) rfl (fun ls hl => ?_)
  refine lv_aload_n hx hb dX2_passDay_8 rfl (lv_at hl 1 rfl) ?_
  refine lv_iload_n hx hb dX2_passDay_9 rfl (lv_at hl 0 rfl) ?_
  have hq := bd2_s hf
  clear hf
  obtain ⟨w2, w3, hcall, hf⟩ := hq
  refine gsV (ws' := [(a_p0, .inr (2, [.ref a_p0_rules, .ref a_p0_state, .ref a_p0_places, .ref a_p0_holders, .ref a_p0_stirred])), (a_p0_rules, .inr (6, [.int (Int32.ofInt i_p0_rules_seats), .int (Int32.ofInt i_p0_rules_stirs), .ref a_p0_rules_need, .ref a_p0_rules_kind, .ref a_p0_rules_first, .ref a_p0_rules_second, .ref a_p0_rules_after])), (a_p0_rules_after, .inl (G 1, 35, .inl (zA v_p0_rules_after))), (a_p0_state, .inr (8, [.ref a_p0_state_pieces, .ref a_p0_state_friends, .ref a_p0_state_spoons, .ref a_p0_state_eaten, .ref a_p0_state_seen, .int (Int32.ofInt i_p0_state_seenDays), .int (Int32.ofInt i_p0_state_bone), .int (Int32.ofInt i_p0_state_king), .int (Int32.ofInt i_p0_state_days)])), (a_p0_state_pieces, .inl (G 1, 7, .inl (zA v_p0_state_pieces))), (a_p0_state_friends, .inl (G 1, 7, .inl (zA v_p0_state_friends))), (a_p0_state_eaten, .inl (G 1, 7, .inl (zA v_p0_state_eaten))), (a_p0_places, .inl (G 1, 49, .inl (zA w2))), (a_p0_holders, .inl (G 1, 49, .inl (zA w3))), (a_p0_stirred, .inl (G 1, 7, .inl (zA v_p0_stirred)))]) (va_runV (As := [.int (Int32.ofInt z1)]) (rest := []) ⟨hx, hb, hml, hown, hts⟩ (c_X2_serve (l := l) (D := D) (G := G) (sz := H.size) (a_p0 := a_p0) (a_p0_rules := a_p0_rules) (a_p0_state := a_p0_state) (a_p0_places := a_p0_places) (a_p0_holders := a_p0_holders) (a_p0_stirred := a_p0_stirred) (a_p0_rules_need := a_p0_rules_need) (a_p0_rules_kind := a_p0_rules_kind) (a_p0_rules_first := a_p0_rules_first) (a_p0_rules_second := a_p0_rules_second) (a_p0_rules_after := a_p0_rules_after) (a_p0_state_pieces := a_p0_state_pieces) (a_p0_state_friends := a_p0_state_friends) (a_p0_state_spoons := a_p0_state_spoons) (a_p0_state_eaten := a_p0_state_eaten) (a_p0_state_seen := a_p0_state_seen) (i_p0_rules_seats := i_p0_rules_seats) (i_p0_rules_stirs := i_p0_rules_stirs) (i_p0_state_seenDays := i_p0_state_seenDays) (i_p0_state_bone := i_p0_state_bone) (i_p0_state_king := i_p0_state_king) (i_p0_state_days := i_p0_state_days) (v_p0_state_friends := v_p0_state_friends) (v_p0_places := v_p0_places) (v_p0_holders := v_p0_holders) (x1 := z1) (o_v_p0_places := w2) (o_v_p0_holders := w3) (hf := hcall)) (cwV 1 hts gX2_passDay_X2_serve rfl rfl rfl hdV_yX2_serve_RX2 ⟨Nat.le_of_ble_eq_true rfl, Nat.le_of_ble_eq_true rfl⟩) (preG_V (ci := 2) (q := (RX2, TX2, 5)) (hP.sub [0, 1, 3, 5, 7, 8] rfl) (hD.sub [0, 1, 3, 5, 7, 8] rfl rfl) hK rfl rfl) rfl rfl hl.1 rfl (lv_room (Nat.le_of_ble_eq_true rfl)) dX2_passDay_10 ⟨Nat.le_of_ble_eq_true rfl, Nat.le_of_ble_eq_true rfl⟩) hP hD hS hA [0, 1, 3, 5, 7, 8] rfl rfl rfl (fun H locs hP hD hS => ?_)
  clear hcall
  refine lv_aload_n hx hb dX2_passDay_13 rfl (lv_at hl 1 rfl) ?_
  refine lv_iload_n hx hb dX2_passDay_14 rfl (lv_at hl 2 rfl) ?_
  have hq := bd1_s hf
  clear hf
  obtain ⟨w4, hcall, hf⟩ := hq
  refine gsV (ws' := [(a_p0, .inr (2, [.ref a_p0_rules, .ref a_p0_state, .ref a_p0_places, .ref a_p0_holders, .ref a_p0_stirred])), (a_p0_rules, .inr (6, [.int (Int32.ofInt i_p0_rules_seats), .int (Int32.ofInt i_p0_rules_stirs), .ref a_p0_rules_need, .ref a_p0_rules_kind, .ref a_p0_rules_first, .ref a_p0_rules_second, .ref a_p0_rules_after])), (a_p0_rules_after, .inl (G 1, 35, .inl (zA v_p0_rules_after))), (a_p0_state, .inr (8, [.ref a_p0_state_pieces, .ref a_p0_state_friends, .ref a_p0_state_spoons, .ref a_p0_state_eaten, .ref a_p0_state_seen, .int (Int32.ofInt i_p0_state_seenDays), .int (Int32.ofInt i_p0_state_bone), .int (Int32.ofInt i_p0_state_king), .int (Int32.ofInt i_p0_state_days)])), (a_p0_state_pieces, .inl (G 1, 7, .inl (zA v_p0_state_pieces))), (a_p0_state_friends, .inl (G 1, 7, .inl (zA v_p0_state_friends))), (a_p0_state_eaten, .inl (G 1, 7, .inl (zA v_p0_state_eaten))), (a_p0_places, .inl (G 1, 49, .inl (zA w2))), (a_p0_holders, .inl (G 1, 49, .inl (zA w3))), (a_p0_stirred, .inl (G 1, 7, .inl (zA w4)))]) (va_runV (As := [.int (Int32.ofInt x1)]) (rest := []) ⟨hx, hb, hml, hown, hts⟩ (c_X2_stirPot (l := l) (D := D) (G := G) (sz := H.size) (a_p0 := a_p0) (a_p0_rules := a_p0_rules) (a_p0_state := a_p0_state) (a_p0_places := a_p0_places) (a_p0_holders := a_p0_holders) (a_p0_stirred := a_p0_stirred) (a_p0_rules_need := a_p0_rules_need) (a_p0_rules_kind := a_p0_rules_kind) (a_p0_rules_first := a_p0_rules_first) (a_p0_rules_second := a_p0_rules_second) (a_p0_rules_after := a_p0_rules_after) (a_p0_state_pieces := a_p0_state_pieces) (a_p0_state_friends := a_p0_state_friends) (a_p0_state_spoons := a_p0_state_spoons) (a_p0_state_eaten := a_p0_state_eaten) (a_p0_state_seen := a_p0_state_seen) (i_p0_rules_seats := i_p0_rules_seats) (i_p0_rules_stirs := i_p0_rules_stirs) (v_p0_rules_after := v_p0_rules_after) (i_p0_state_seenDays := i_p0_state_seenDays) (i_p0_state_bone := i_p0_state_bone) (i_p0_state_king := i_p0_state_king) (i_p0_state_days := i_p0_state_days) (v_p0_state_pieces := v_p0_state_pieces) (v_p0_stirred := v_p0_stirred) (x1 := x1) (o_v_p0_stirred := w4) (hf := hcall)) (cwV 1 hts gX2_passDay_X2_stirPot rfl rfl rfl hdV_yX2_stirPot_RX2 ⟨Nat.le_of_ble_eq_true rfl, Nat.le_of_ble_eq_true rfl⟩) (preG_V (ci := 2) (q := (RX2, TX2, 5)) (hP.sub [0, 1, 2, 3, 4, 9] rfl) (hD.sub [0, 1, 2, 3, 4, 9] rfl rfl) hK rfl rfl) rfl rfl hl.1 rfl (lv_room (Nat.le_of_ble_eq_true rfl)) dX2_passDay_15 ⟨Nat.le_of_ble_eq_true rfl, Nat.le_of_ble_eq_true rfl⟩) hP hD hS hA [0, 1, 2, 3, 4, 9] rfl rfl rfl (fun H locs hP hD hS => ?_)
  clear hcall
  refine lv_aload_n hx hb dX2_passDay_18 rfl (lv_at hl 1 rfl) ?_
  refine va_get (D := D) (ci := 2) (v := .ref a_p0_stirred) (C := RX2) (T := TX2) (N := 5) hx hb hts inX2_passDay_X2 hown hK hP 0 rfl rfl 4 (by decide) (hts _ mwX2_passDay_5) (fun _ h9 => h9) rfl dX2_passDay_19 ?_
  refine lv_iconst (v := Int32.ofInt (0 : Int)) hx hb dX2_passDay_22 (by decide) ?_
  refine lv_aload_n hx hb dX2_passDay_23 rfl (lv_at hl 1 rfl) ?_
  refine va_get (D := D) (ci := 2) (v := .ref a_p0_state) (C := RX2) (T := TX2) (N := 5) hx hb hts inX2_passDay_X2 hown hK hP 0 rfl rfl 1 (by decide) (hts _ mwX2_passDay_1) (fun _ h9 => h9) rfl dX2_passDay_24 ?_
  refine va_get (D := D) (ci := 8) (v := .ref a_p0_state_pieces) (C := RX8) (T := TX8) (N := 9) hx hb hts inX2_passDay_X8 hown hK hP 3 rfl rfl 0 (by decide) (hts _ mwX2_passDay_6) (fun _ h9 => h9) rfl dX2_passDay_27 ?_
  refine lv_iconst (v := Int32.ofInt (0 : Int)) hx hb dX2_passDay_30 (by decide) ?_
  refine lv_aload_n hx hb dX2_passDay_31 rfl (lv_at hl 1 rfl) ?_
  refine va_get (D := D) (ci := 2) (v := .ref a_p0_rules) (C := RX2) (T := TX2) (N := 5) hx hb hts inX2_passDay_X2 hown hK hP 0 rfl rfl 0 (by decide) (hts _ mwX2_passDay_7) (fun _ h9 => h9) rfl dX2_passDay_32 ?_
  refine va_get (D := D) (ci := 6) (v := .int (Int32.ofInt i_p0_rules_seats)) (C := RX6) (T := TX6) (N := 7) hx hb hts inX2_passDay_X6 hown hK hP 1 rfl rfl 0 (by decide) (hts _ mwX2_passDay_9) (fun _ h9 => h9) rfl dX2_passDay_35 ?_
  have hc0 := ck_c hf
  have hc := z_cp_s hc0
  replace hf := ck_r hf
  have hc02 := ck_c hf
  have hc2 := z_cp_s hc02
  replace hf := ck_r hf
  refine va_copyi hx hb (by rw [hml]; exact hl.1.symm) hown (hts _ mwX2_passDay_10) (hts _ mwX2_passDay_11) (hts _ mwX2_passDay_12) (hts _ mwX2_passDay_13) hK hP hD hS 9 4 1 1 rfl rfl rfl rfl rfl hc.1 hc2.1 hc.2.1 hc.2.2 hc2.2.2 (fun _ _ => rfl) (Nat.le_of_ble_eq_true rfl) (Nat.le_of_ble_eq_true rfl) dX2_passDay_38 (fun H locs hP hD hS => ?_)
  obtain ⟨w5, ez⟩ : ∃ y : (Int → Int), y = (z_cpy w4 v_p0_state_pieces (0 : Int) (0 : Int) i_p0_rules_seats) := ⟨_, rfl⟩
  have hP : va_P D vwCl [(a_p0, .inr (2, [.ref a_p0_rules, .ref a_p0_state, .ref a_p0_places, .ref a_p0_holders, .ref a_p0_stirred])), (a_p0_rules, .inr (6, [.int (Int32.ofInt i_p0_rules_seats), .int (Int32.ofInt i_p0_rules_stirs), .ref a_p0_rules_need, .ref a_p0_rules_kind, .ref a_p0_rules_first, .ref a_p0_rules_second, .ref a_p0_rules_after])), (a_p0_rules_after, .inl (G 1, 35, .inl (zA v_p0_rules_after))), (a_p0_state, .inr (8, [.ref a_p0_state_pieces, .ref a_p0_state_friends, .ref a_p0_state_spoons, .ref a_p0_state_eaten, .ref a_p0_state_seen, .int (Int32.ofInt i_p0_state_seenDays), .int (Int32.ofInt i_p0_state_bone), .int (Int32.ofInt i_p0_state_king), .int (Int32.ofInt i_p0_state_days)])), (a_p0_state_pieces, .inl (G 1, 7, .inl (zA w5))), (a_p0_state_friends, .inl (G 1, 7, .inl (zA v_p0_state_friends))), (a_p0_state_eaten, .inl (G 1, 7, .inl (zA v_p0_state_eaten))), (a_p0_places, .inl (G 1, 49, .inl (zA w2))), (a_p0_holders, .inl (G 1, 49, .inl (zA w3))), (a_p0_stirred, .inl (G 1, 7, .inl (zA w4)))] H := by rw [ez, ← z_cpy_e hc0 hc02]; exact hP
  have hD : va_D A [(a_p0, .inr (2, [.ref a_p0_rules, .ref a_p0_state, .ref a_p0_places, .ref a_p0_holders, .ref a_p0_stirred])), (a_p0_rules, .inr (6, [.int (Int32.ofInt i_p0_rules_seats), .int (Int32.ofInt i_p0_rules_stirs), .ref a_p0_rules_need, .ref a_p0_rules_kind, .ref a_p0_rules_first, .ref a_p0_rules_second, .ref a_p0_rules_after])), (a_p0_rules_after, .inl (G 1, 35, .inl (zA v_p0_rules_after))), (a_p0_state, .inr (8, [.ref a_p0_state_pieces, .ref a_p0_state_friends, .ref a_p0_state_spoons, .ref a_p0_state_eaten, .ref a_p0_state_seen, .int (Int32.ofInt i_p0_state_seenDays), .int (Int32.ofInt i_p0_state_bone), .int (Int32.ofInt i_p0_state_king), .int (Int32.ofInt i_p0_state_days)])), (a_p0_state_pieces, .inl (G 1, 7, .inl (zA w5))), (a_p0_state_friends, .inl (G 1, 7, .inl (zA v_p0_state_friends))), (a_p0_state_eaten, .inl (G 1, 7, .inl (zA v_p0_state_eaten))), (a_p0_places, .inl (G 1, 49, .inl (zA w2))), (a_p0_holders, .inl (G 1, 49, .inl (zA w3))), (a_p0_stirred, .inl (G 1, 7, .inl (zA w4)))] := by rw [ez, ← z_cpy_e hc0 hc02]; exact hD
  replace hf := bnd_s hf ez
  clear ez hc hc2 hc0 hc02
  refine lv_aload_n hx hb dX2_passDay_41 rfl (lv_at hl 1 rfl) ?_
  refine va_get (D := D) (ci := 2) (v := .ref a_p0_state) (C := RX2) (T := TX2) (N := 5) hx hb hts inX2_passDay_X2 hown hK hP 0 rfl rfl 1 (by decide) (hts _ mwX2_passDay_1) (fun _ h9 => h9) rfl dX2_passDay_42 ?_
  refine lv_aload_n hx hb dX2_passDay_45 rfl (lv_at hl 1 rfl) ?_
  refine va_get (D := D) (ci := 2) (v := .ref a_p0_rules) (C := RX2) (T := TX2) (N := 5) hx hb hts inX2_passDay_X2 hown hK hP 0 rfl rfl 0 (by decide) (hts _ mwX2_passDay_7) (fun _ h9 => h9) rfl dX2_passDay_46 ?_
  refine lv_iload_n hx hb dX2_passDay_49 rfl (lv_at hl 2 rfl) ?_
  refine lv_aload_n hx hb dX2_passDay_50 rfl (lv_at hl 1 rfl) ?_
  refine va_get (D := D) (ci := 2) (v := .ref a_p0_state) (C := RX2) (T := TX2) (N := 5) hx hb hts inX2_passDay_X2 hown hK hP 0 rfl rfl 1 (by decide) (hts _ mwX2_passDay_1) (fun _ h9 => h9) rfl dX2_passDay_51 ?_
  refine va_get (D := D) (ci := 8) (v := .int (Int32.ofInt i_p0_state_bone)) (C := RX8) (T := TX8) (N := 9) hx hb hts inX2_passDay_X8 hown hK hP 3 rfl rfl 6 (by decide) (hts _ mwX2_passDay_14) (fun _ h9 => h9) rfl dX2_passDay_54 ?_
  have hq := bd1_s hf
  clear hf
  obtain ⟨z6, hcall, hf⟩ := hq
  refine gnI (va_runV (As := [.int (Int32.ofInt x1), .int (Int32.ofInt i_p0_state_bone)]) (rest := [.ref a_p0_state]) ⟨hx, hb, hml, hown, hts⟩ (c_X6_placeAfter (l := l) (D := D) (G := G) (sz := H.size) (a_p0 := a_p0_rules) (a_p0_need := a_p0_rules_need) (a_p0_kind := a_p0_rules_kind) (a_p0_first := a_p0_rules_first) (a_p0_second := a_p0_rules_second) (a_p0_after := a_p0_rules_after) (i_p0_seats := i_p0_rules_seats) (i_p0_stirs := i_p0_rules_stirs) (v_p0_after := v_p0_rules_after) (x1 := x1) (x2 := i_p0_state_bone) (r := z6) (hf := hcall)) (cwV 2 hts gX2_passDay_X6_placeAfter rfl rfl rfl hdV_yX6_placeAfter_RX6 ⟨Nat.le_of_ble_eq_true rfl, Nat.le_of_ble_eq_true rfl⟩) (preG_V (ci := 6) (q := (RX6, TX6, 7)) (hP.sub [1, 2] rfl) (hD.sub [1, 2] rfl rfl) hK rfl rfl) rfl rfl hl.1 rfl (lv_room (Nat.le_of_ble_eq_true rfl)) dX2_passDay_57 ⟨Nat.le_of_ble_eq_true rfl, Nat.le_of_ble_eq_true rfl⟩) hP hD hS hA [1, 2] rfl (fun H locs hP hD hS => ?_)
  clear hcall
  refine z_topi (fun z7 ez => ?_)
  replace hf := bnd_s hf ez
  clear ez
  refine va_put (D := D) (ci := 8) (v := .int (Int32.ofInt z7)) (ty := .int) (C := RX8) (T := TX8) (N := 9) hx hb hts inX2_passDay_X8 tyX8 tyX8_ok nmX8 hown hK hP hD hS 3 rfl rfl 6 (by decide) (hts _ mwX2_passDay_14) (fun _ h9 => h9) rfl (by decide +kernel) rfl rfl (Nat.le_of_ble_eq_true rfl) dX2_passDay_60 (fun H locs hP hD hS => ?_)
  have hP : va_P D vwCl [(a_p0, .inr (2, [.ref a_p0_rules, .ref a_p0_state, .ref a_p0_places, .ref a_p0_holders, .ref a_p0_stirred])), (a_p0_rules, .inr (6, [.int (Int32.ofInt i_p0_rules_seats), .int (Int32.ofInt i_p0_rules_stirs), .ref a_p0_rules_need, .ref a_p0_rules_kind, .ref a_p0_rules_first, .ref a_p0_rules_second, .ref a_p0_rules_after])), (a_p0_rules_after, .inl (G 1, 35, .inl (zA v_p0_rules_after))), (a_p0_state, .inr (8, [.ref a_p0_state_pieces, .ref a_p0_state_friends, .ref a_p0_state_spoons, .ref a_p0_state_eaten, .ref a_p0_state_seen, .int (Int32.ofInt i_p0_state_seenDays), .int (Int32.ofInt z7), .int (Int32.ofInt i_p0_state_king), .int (Int32.ofInt i_p0_state_days)])), (a_p0_state_pieces, .inl (G 1, 7, .inl (zA w5))), (a_p0_state_friends, .inl (G 1, 7, .inl (zA v_p0_state_friends))), (a_p0_state_eaten, .inl (G 1, 7, .inl (zA v_p0_state_eaten))), (a_p0_places, .inl (G 1, 49, .inl (zA w2))), (a_p0_holders, .inl (G 1, 49, .inl (zA w3))), (a_p0_stirred, .inl (G 1, 7, .inl (zA w4)))] H := hP
  have hD : va_D A [(a_p0, .inr (2, [.ref a_p0_rules, .ref a_p0_state, .ref a_p0_places, .ref a_p0_holders, .ref a_p0_stirred])), (a_p0_rules, .inr (6, [.int (Int32.ofInt i_p0_rules_seats), .int (Int32.ofInt i_p0_rules_stirs), .ref a_p0_rules_need, .ref a_p0_rules_kind, .ref a_p0_rules_first, .ref a_p0_rules_second, .ref a_p0_rules_after])), (a_p0_rules_after, .inl (G 1, 35, .inl (zA v_p0_rules_after))), (a_p0_state, .inr (8, [.ref a_p0_state_pieces, .ref a_p0_state_friends, .ref a_p0_state_spoons, .ref a_p0_state_eaten, .ref a_p0_state_seen, .int (Int32.ofInt i_p0_state_seenDays), .int (Int32.ofInt z7), .int (Int32.ofInt i_p0_state_king), .int (Int32.ofInt i_p0_state_days)])), (a_p0_state_pieces, .inl (G 1, 7, .inl (zA w5))), (a_p0_state_friends, .inl (G 1, 7, .inl (zA v_p0_state_friends))), (a_p0_state_eaten, .inl (G 1, 7, .inl (zA v_p0_state_eaten))), (a_p0_places, .inl (G 1, 49, .inl (zA w2))), (a_p0_holders, .inl (G 1, 49, .inl (zA w3))), (a_p0_stirred, .inl (G 1, 7, .inl (zA w4)))] := hD
  refine lv_iconst (v := Int32.ofInt (0 : Int)) hx hb dX2_passDay_63 (by decide) ?_
  refine z_topi (fun z8 ez => ?_)
  replace hf := bnd_s hf ez
  clear ez
  refine lv_istore_n (lv' := [(3, .int (Int32.ofInt z8)), (2, .int (Int32.ofInt z1)), (0, .ref a_p0), (1, .int (Int32.ofInt x1))]) hx hb dX2_passDay_64 rfl hl (by decide) rfl (fun ls hl => ?_)
  have hq := jn_i hf
  clear hf
  obtain ⟨J10, eJ10, hf⟩ := hq
  have hJ10 : ∀ (w9 : (Int → Int)) (ls : Array Slot) (H : Heap) (locs : List Loc), lv_has ls 4 [(2, .int (Int32.ofInt z1)), (0, .ref a_p0)] → va_P D vwCl [(a_p0, .inr (2, [.ref a_p0_rules, .ref a_p0_state, .ref a_p0_places, .ref a_p0_holders, .ref a_p0_stirred])), (a_p0_rules, .inr (6, [.int (Int32.ofInt i_p0_rules_seats), .int (Int32.ofInt i_p0_rules_stirs), .ref a_p0_rules_need, .ref a_p0_rules_kind, .ref a_p0_rules_first, .ref a_p0_rules_second, .ref a_p0_rules_after])), (a_p0_rules_after, .inl (G 1, 35, .inl (zA v_p0_rules_after))), (a_p0_state, .inr (8, [.ref a_p0_state_pieces, .ref a_p0_state_friends, .ref a_p0_state_spoons, .ref a_p0_state_eaten, .ref a_p0_state_seen, .int (Int32.ofInt i_p0_state_seenDays), .int (Int32.ofInt z7), .int (Int32.ofInt i_p0_state_king), .int (Int32.ofInt i_p0_state_days)])), (a_p0_state_pieces, .inl (G 1, 7, .inl (zA w5))), (a_p0_state_friends, .inl (G 1, 7, .inl (zA v_p0_state_friends))), (a_p0_state_eaten, .inl (G 1, 7, .inl (zA w9))), (a_p0_places, .inl (G 1, 49, .inl (zA w2))), (a_p0_holders, .inl (G 1, 49, .inl (zA w3))), (a_p0_stirred, .inl (G 1, 7, .inl (zA w4)))] H → va_D A [(a_p0, .inr (2, [.ref a_p0_rules, .ref a_p0_state, .ref a_p0_places, .ref a_p0_holders, .ref a_p0_stirred])), (a_p0_rules, .inr (6, [.int (Int32.ofInt i_p0_rules_seats), .int (Int32.ofInt i_p0_rules_stirs), .ref a_p0_rules_need, .ref a_p0_rules_kind, .ref a_p0_rules_first, .ref a_p0_rules_second, .ref a_p0_rules_after])), (a_p0_rules_after, .inl (G 1, 35, .inl (zA v_p0_rules_after))), (a_p0_state, .inr (8, [.ref a_p0_state_pieces, .ref a_p0_state_friends, .ref a_p0_state_spoons, .ref a_p0_state_eaten, .ref a_p0_state_seen, .int (Int32.ofInt i_p0_state_seenDays), .int (Int32.ofInt z7), .int (Int32.ofInt i_p0_state_king), .int (Int32.ofInt i_p0_state_days)])), (a_p0_state_pieces, .inl (G 1, 7, .inl (zA w5))), (a_p0_state_friends, .inl (G 1, 7, .inl (zA v_p0_state_friends))), (a_p0_state_eaten, .inl (G 1, 7, .inl (zA w9))), (a_p0_places, .inl (G 1, 49, .inl (zA w2))), (a_p0_holders, .inl (G 1, 49, .inl (zA w3))), (a_p0_stirred, .inl (G 1, 7, .inl (zA w4)))] → va_S A s.heap H locs → J10 w9 = some (o_i_p0_state_bone, o_i_p0_state_king, o_i_p0_state_days, o_v_p0_state_pieces, o_v_p0_state_eaten, o_v_p0_places, o_v_p0_holders, o_v_p0_stirred) → W p l e rm_X2_passDay s m ([.ref a_p0, .int (Int32.ofInt x1)] : List Value).toArray below meth c H locs 0 0 Q (F0 m 100 ls []) := by
    clear hf hl hP hD hS
    intro w9 ls H locs hl hP hD hS hf
    replace hf := jn1_s eJ10 hf
    refine lv_aload_n hx hb dX2_passDay_100 rfl (lv_at hl 1 rfl) ?_
    refine va_get (D := D) (ci := 2) (v := .ref a_p0_state) (C := RX2) (T := TX2) (N := 5) hx hb hts inX2_passDay_X2 hown hK hP 0 rfl rfl 1 (by decide) (hts _ mwX2_passDay_1) (fun _ h9 => h9) rfl dX2_passDay_101 ?_
    refine lv_aload_n hx hb dX2_passDay_104 rfl (lv_at hl 1 rfl) ?_
    refine lv_iload_n hx hb dX2_passDay_105 rfl (lv_at hl 0 rfl) ?_
    refine lv_aload_n hx hb dX2_passDay_106 rfl (lv_at hl 1 rfl) ?_
    refine va_get (D := D) (ci := 2) (v := .ref a_p0_state) (C := RX2) (T := TX2) (N := 5) hx hb hts inX2_passDay_X2 hown hK hP 0 rfl rfl 1 (by decide) (hts _ mwX2_passDay_1) (fun _ h9 => h9) rfl dX2_passDay_107 ?_
    refine va_get (D := D) (ci := 8) (v := .int (Int32.ofInt z7)) (C := RX8) (T := TX8) (N := 9) hx hb hts inX2_passDay_X8 hown hK hP 3 rfl rfl 6 (by decide) (hts _ mwX2_passDay_14) (fun _ h9 => h9) rfl dX2_passDay_110 ?_
    have hq := bd1_s hf
    clear hf
    obtain ⟨z11, hcall, hf⟩ := hq
    refine gnI (va_runV (As := [.int (Int32.ofInt z1), .int (Int32.ofInt z7)]) (rest := [.ref a_p0_state]) ⟨hx, hb, hml, hown, hts⟩ (c_X2_holderOf (l := l) (D := D) (G := G) (sz := H.size) (a_p0 := a_p0) (a_p0_rules := a_p0_rules) (a_p0_state := a_p0_state) (a_p0_places := a_p0_places) (a_p0_holders := a_p0_holders) (a_p0_stirred := a_p0_stirred) (v_p0_holders := w3) (x1 := z1) (x2 := z7) (r := z11) (hf := hcall)) (cwV 2 hts gX2_passDay_X2_holderOf rfl rfl rfl hdV_yX2_holderOf_RX2 ⟨Nat.le_of_ble_eq_true rfl, Nat.le_of_ble_eq_true rfl⟩) (preG_V (ci := 2) (q := (RX2, TX2, 5)) (hP.sub [0, 8] rfl) (hD.sub [0, 8] rfl rfl) hK rfl rfl) rfl rfl hl.1 rfl (lv_room (Nat.le_of_ble_eq_true rfl)) dX2_passDay_113 ⟨Nat.le_of_ble_eq_true rfl, Nat.le_of_ble_eq_true rfl⟩) hP hD hS hA [0, 8] rfl (fun H locs hP hD hS => ?_)
    clear hcall
    refine z_topi (fun z12 ez => ?_)
    replace hf := bnd_s hf ez
    clear ez
    refine va_put (D := D) (ci := 8) (v := .int (Int32.ofInt z12)) (ty := .int) (C := RX8) (T := TX8) (N := 9) hx hb hts inX2_passDay_X8 tyX8 tyX8_ok nmX8 hown hK hP hD hS 3 rfl rfl 7 (by decide) (hts _ mwX2_passDay_3) (fun _ h9 => h9) rfl (by decide +kernel) rfl rfl (Nat.le_of_ble_eq_true rfl) dX2_passDay_116 (fun H locs hP hD hS => ?_)
    have hP : va_P D vwCl [(a_p0, .inr (2, [.ref a_p0_rules, .ref a_p0_state, .ref a_p0_places, .ref a_p0_holders, .ref a_p0_stirred])), (a_p0_rules, .inr (6, [.int (Int32.ofInt i_p0_rules_seats), .int (Int32.ofInt i_p0_rules_stirs), .ref a_p0_rules_need, .ref a_p0_rules_kind, .ref a_p0_rules_first, .ref a_p0_rules_second, .ref a_p0_rules_after])), (a_p0_rules_after, .inl (G 1, 35, .inl (zA v_p0_rules_after))), (a_p0_state, .inr (8, [.ref a_p0_state_pieces, .ref a_p0_state_friends, .ref a_p0_state_spoons, .ref a_p0_state_eaten, .ref a_p0_state_seen, .int (Int32.ofInt i_p0_state_seenDays), .int (Int32.ofInt z7), .int (Int32.ofInt z12), .int (Int32.ofInt i_p0_state_days)])), (a_p0_state_pieces, .inl (G 1, 7, .inl (zA w5))), (a_p0_state_friends, .inl (G 1, 7, .inl (zA v_p0_state_friends))), (a_p0_state_eaten, .inl (G 1, 7, .inl (zA w9))), (a_p0_places, .inl (G 1, 49, .inl (zA w2))), (a_p0_holders, .inl (G 1, 49, .inl (zA w3))), (a_p0_stirred, .inl (G 1, 7, .inl (zA w4)))] H := hP
    have hD : va_D A [(a_p0, .inr (2, [.ref a_p0_rules, .ref a_p0_state, .ref a_p0_places, .ref a_p0_holders, .ref a_p0_stirred])), (a_p0_rules, .inr (6, [.int (Int32.ofInt i_p0_rules_seats), .int (Int32.ofInt i_p0_rules_stirs), .ref a_p0_rules_need, .ref a_p0_rules_kind, .ref a_p0_rules_first, .ref a_p0_rules_second, .ref a_p0_rules_after])), (a_p0_rules_after, .inl (G 1, 35, .inl (zA v_p0_rules_after))), (a_p0_state, .inr (8, [.ref a_p0_state_pieces, .ref a_p0_state_friends, .ref a_p0_state_spoons, .ref a_p0_state_eaten, .ref a_p0_state_seen, .int (Int32.ofInt i_p0_state_seenDays), .int (Int32.ofInt z7), .int (Int32.ofInt z12), .int (Int32.ofInt i_p0_state_days)])), (a_p0_state_pieces, .inl (G 1, 7, .inl (zA w5))), (a_p0_state_friends, .inl (G 1, 7, .inl (zA v_p0_state_friends))), (a_p0_state_eaten, .inl (G 1, 7, .inl (zA w9))), (a_p0_places, .inl (G 1, 49, .inl (zA w2))), (a_p0_holders, .inl (G 1, 49, .inl (zA w3))), (a_p0_stirred, .inl (G 1, 7, .inl (zA w4)))] := hD
    refine lv_aload_n hx hb dX2_passDay_119 rfl (lv_at hl 1 rfl) ?_
    refine va_get (D := D) (ci := 2) (v := .ref a_p0_state) (C := RX2) (T := TX2) (N := 5) hx hb hts inX2_passDay_X2 hown hK hP 0 rfl rfl 1 (by decide) (hts _ mwX2_passDay_1) (fun _ h9 => h9) rfl dX2_passDay_120 ?_
    refine lv_dup hx hb dX2_passDay_123 rfl ?_
    refine va_get (D := D) (ci := 8) (v := .int (Int32.ofInt i_p0_state_days)) (C := RX8) (T := TX8) (N := 9) hx hb hts inX2_passDay_X8 hown hK hP 3 rfl rfl 8 (by decide) (hts _ mwX2_passDay_15) (fun _ h9 => h9) rfl dX2_passDay_124 ?_
    refine lv_iconst (v := Int32.ofInt (1 : Int)) hx hb dX2_passDay_127 (by decide) ?_
    refine lv_iadd hx hb dX2_passDay_128 (z_ci (Int32.ofInt_add i_p0_state_days (1 : Int)) ?_)
    refine z_topi (fun z13 ez => ?_)
    replace hf := bnd_s hf ez
    clear ez
    refine va_put (D := D) (ci := 8) (v := .int (Int32.ofInt z13)) (ty := .int) (C := RX8) (T := TX8) (N := 9) hx hb hts inX2_passDay_X8 tyX8 tyX8_ok nmX8 hown hK hP hD hS 3 rfl rfl 8 (by decide) (hts _ mwX2_passDay_15) (fun _ h9 => h9) rfl (by decide +kernel) rfl rfl (Nat.le_of_ble_eq_true rfl) dX2_passDay_129 (fun H locs hP hD hS => ?_)
    have hP : va_P D vwCl [(a_p0, .inr (2, [.ref a_p0_rules, .ref a_p0_state, .ref a_p0_places, .ref a_p0_holders, .ref a_p0_stirred])), (a_p0_rules, .inr (6, [.int (Int32.ofInt i_p0_rules_seats), .int (Int32.ofInt i_p0_rules_stirs), .ref a_p0_rules_need, .ref a_p0_rules_kind, .ref a_p0_rules_first, .ref a_p0_rules_second, .ref a_p0_rules_after])), (a_p0_rules_after, .inl (G 1, 35, .inl (zA v_p0_rules_after))), (a_p0_state, .inr (8, [.ref a_p0_state_pieces, .ref a_p0_state_friends, .ref a_p0_state_spoons, .ref a_p0_state_eaten, .ref a_p0_state_seen, .int (Int32.ofInt i_p0_state_seenDays), .int (Int32.ofInt z7), .int (Int32.ofInt z12), .int (Int32.ofInt z13)])), (a_p0_state_pieces, .inl (G 1, 7, .inl (zA w5))), (a_p0_state_friends, .inl (G 1, 7, .inl (zA v_p0_state_friends))), (a_p0_state_eaten, .inl (G 1, 7, .inl (zA w9))), (a_p0_places, .inl (G 1, 49, .inl (zA w2))), (a_p0_holders, .inl (G 1, 49, .inl (zA w3))), (a_p0_stirred, .inl (G 1, 7, .inl (zA w4)))] H := hP
    have hD : va_D A [(a_p0, .inr (2, [.ref a_p0_rules, .ref a_p0_state, .ref a_p0_places, .ref a_p0_holders, .ref a_p0_stirred])), (a_p0_rules, .inr (6, [.int (Int32.ofInt i_p0_rules_seats), .int (Int32.ofInt i_p0_rules_stirs), .ref a_p0_rules_need, .ref a_p0_rules_kind, .ref a_p0_rules_first, .ref a_p0_rules_second, .ref a_p0_rules_after])), (a_p0_rules_after, .inl (G 1, 35, .inl (zA v_p0_rules_after))), (a_p0_state, .inr (8, [.ref a_p0_state_pieces, .ref a_p0_state_friends, .ref a_p0_state_spoons, .ref a_p0_state_eaten, .ref a_p0_state_seen, .int (Int32.ofInt i_p0_state_seenDays), .int (Int32.ofInt z7), .int (Int32.ofInt z12), .int (Int32.ofInt z13)])), (a_p0_state_pieces, .inl (G 1, 7, .inl (zA w5))), (a_p0_state_friends, .inl (G 1, 7, .inl (zA v_p0_state_friends))), (a_p0_state_eaten, .inl (G 1, 7, .inl (zA w9))), (a_p0_places, .inl (G 1, 49, .inl (zA w2))), (a_p0_holders, .inl (G 1, 49, .inl (zA w3))), (a_p0_stirred, .inl (G 1, 7, .inl (zA w4)))] := hD
    obtain ⟨rfl, rfl, rfl, rfl, rfl, rfl, rfl, rfl⟩ := ou8 hf
    rw [hQ]
    exact W.vret hx hb hr (fun t ht hW => ⟨⟨(), rfl, trivial, by rw [ht]; exact hP, va_K.moved hW.alike hK, hD⟩, hS.F ht⟩) hS.2.2 dX2_passDay_132
  have hq := lq2_i hf
  clear hf
  obtain ⟨B16, eB16, NB16, hf⟩ := hq
  have hB16 : ∀ (n : Nat) (z14 : Int) (w15 : (Int → Int)) (ls : Array Slot) (H : Heap) (locs : List Loc), lv_has ls 4 [(3, .int (Int32.ofInt z14)), (2, .int (Int32.ofInt z1)), (0, .ref a_p0)] → va_P D vwCl [(a_p0, .inr (2, [.ref a_p0_rules, .ref a_p0_state, .ref a_p0_places, .ref a_p0_holders, .ref a_p0_stirred])), (a_p0_rules, .inr (6, [.int (Int32.ofInt i_p0_rules_seats), .int (Int32.ofInt i_p0_rules_stirs), .ref a_p0_rules_need, .ref a_p0_rules_kind, .ref a_p0_rules_first, .ref a_p0_rules_second, .ref a_p0_rules_after])), (a_p0_rules_after, .inl (G 1, 35, .inl (zA v_p0_rules_after))), (a_p0_state, .inr (8, [.ref a_p0_state_pieces, .ref a_p0_state_friends, .ref a_p0_state_spoons, .ref a_p0_state_eaten, .ref a_p0_state_seen, .int (Int32.ofInt i_p0_state_seenDays), .int (Int32.ofInt z7), .int (Int32.ofInt i_p0_state_king), .int (Int32.ofInt i_p0_state_days)])), (a_p0_state_pieces, .inl (G 1, 7, .inl (zA w5))), (a_p0_state_friends, .inl (G 1, 7, .inl (zA v_p0_state_friends))), (a_p0_state_eaten, .inl (G 1, 7, .inl (zA w15))), (a_p0_places, .inl (G 1, 49, .inl (zA w2))), (a_p0_holders, .inl (G 1, 49, .inl (zA w3))), (a_p0_stirred, .inl (G 1, 7, .inl (zA w4)))] H → va_D A [(a_p0, .inr (2, [.ref a_p0_rules, .ref a_p0_state, .ref a_p0_places, .ref a_p0_holders, .ref a_p0_stirred])), (a_p0_rules, .inr (6, [.int (Int32.ofInt i_p0_rules_seats), .int (Int32.ofInt i_p0_rules_stirs), .ref a_p0_rules_need, .ref a_p0_rules_kind, .ref a_p0_rules_first, .ref a_p0_rules_second, .ref a_p0_rules_after])), (a_p0_rules_after, .inl (G 1, 35, .inl (zA v_p0_rules_after))), (a_p0_state, .inr (8, [.ref a_p0_state_pieces, .ref a_p0_state_friends, .ref a_p0_state_spoons, .ref a_p0_state_eaten, .ref a_p0_state_seen, .int (Int32.ofInt i_p0_state_seenDays), .int (Int32.ofInt z7), .int (Int32.ofInt i_p0_state_king), .int (Int32.ofInt i_p0_state_days)])), (a_p0_state_pieces, .inl (G 1, 7, .inl (zA w5))), (a_p0_state_friends, .inl (G 1, 7, .inl (zA v_p0_state_friends))), (a_p0_state_eaten, .inl (G 1, 7, .inl (zA w15))), (a_p0_places, .inl (G 1, 49, .inl (zA w2))), (a_p0_holders, .inl (G 1, 49, .inl (zA w3))), (a_p0_stirred, .inl (G 1, 7, .inl (zA w4)))] → va_S A s.heap H locs → lq2 B16 n z14 w15 = some (o_i_p0_state_bone, o_i_p0_state_king, o_i_p0_state_days, o_v_p0_state_pieces, o_v_p0_state_eaten, o_v_p0_places, o_v_p0_holders, o_v_p0_stirred) → W p l e rm_X2_passDay s m ([.ref a_p0, .int (Int32.ofInt x1)] : List Value).toArray below meth c H locs 0 0 Q (F0 m 65 ls []) := by
    clear hf hl hP hD hS
    intro n
    induction n with
    | zero =>
      intro z14 w15 ls H locs hl hP hD hS hf
      exact (lq2_0 hf).elim
    | succ n ih65 =>
      intro z14 w15 ls H locs hl hP hD hS hf
      replace hf := lq2_s eB16 hf
      unfold B_X2_passDay_65 at hf
      refine lv_iload_n hx hb dX2_passDay_65 rfl (lv_at hl 0 rfl) ?_
      refine lv_aload_n hx hb dX2_passDay_66 rfl (lv_at hl 2 rfl) ?_
      refine va_get (D := D) (ci := 2) (v := .ref a_p0_rules) (C := RX2) (T := TX2) (N := 5) hx hb hts inX2_passDay_X2 hown hK hP 0 rfl rfl 0 (by decide) (hts _ mwX2_passDay_7) (fun _ h9 => h9) rfl dX2_passDay_67 ?_
      refine va_get (D := D) (ci := 6) (v := .int (Int32.ofInt i_p0_rules_seats)) (C := RX6) (T := TX6) (N := 7) hx hb hts inX2_passDay_X6 hown hK hP 1 rfl rfl 0 (by decide) (hts _ mwX2_passDay_9) (fun _ h9 => h9) rfl dX2_passDay_70 ?_
      have hr16 := ck_c hf
      replace hf := ck_r hf
      have hr17 := ck_c hf
      replace hf := ck_r hf
      refine lv_icmp_ge (tgt := 100) hx hb dX2_passDay_73 (by decide) (fun cc => ?_) (fun cc => ?_)
      ·
        replace hf := ite_t ((z_le hr17 hr16).mp cc) hf
        clear cc
        exact hJ10 _ _ _ _ (lv_sub hl [1, 2] rfl) hP hD hS hf
      ·
        replace hf := ite_f (fun h9 => cc ((z_le hr17 hr16).mpr h9)) hf
        clear cc
        refine lv_aload_n hx hb dX2_passDay_76 rfl (lv_at hl 2 rfl) ?_
        refine va_get (D := D) (ci := 2) (v := .ref a_p0_state) (C := RX2) (T := TX2) (N := 5) hx hb hts inX2_passDay_X2 hown hK hP 0 rfl rfl 1 (by decide) (hts _ mwX2_passDay_1) (fun _ h9 => h9) rfl dX2_passDay_77 ?_
        refine va_get (D := D) (ci := 8) (v := .ref a_p0_state_eaten) (C := RX8) (T := TX8) (N := 9) hx hb hts inX2_passDay_X8 hown hK hP 3 rfl rfl 3 (by decide) (hts _ mwX2_passDay_16) (fun _ h9 => h9) rfl dX2_passDay_80 ?_
        refine lv_iload_n hx hb dX2_passDay_83 rfl (lv_at hl 0 rfl) ?_
        refine lv_dup2_11 hx hb dX2_passDay_84 rfl rfl ?_
        have hc := ck_c hf
        replace hf := ck_r hf
        refine va_iald hx hb hK hP 6 1 rfl rfl (z_ix_in hc) dX2_passDay_85 (z_ci (z_ald w15 hc) ?_)
        clear hc
        refine lv_aload_n hx hb dX2_passDay_86 rfl (lv_at hl 2 rfl) ?_
        refine lv_iload_n hx hb dX2_passDay_87 rfl (lv_at hl 1 rfl) ?_
        refine lv_iload_n hx hb dX2_passDay_88 rfl (lv_at hl 0 rfl) ?_
        have hq := bd1_s hf
        clear hf
        obtain ⟨z19, hcall, hf⟩ := hq
        refine gnI (va_runV (As := [.int (Int32.ofInt z1), .int (Int32.ofInt z14)]) (rest := [.int (Int32.ofInt (w15 z14)), .int (Int32.ofInt z14), .ref a_p0_state_eaten]) ⟨hx, hb, hml, hown, hts⟩ (c_X2_bowlOf (l := l) (D := D) (G := G) (sz := H.size) (a_p0 := a_p0) (a_p0_rules := a_p0_rules) (a_p0_state := a_p0_state) (a_p0_places := a_p0_places) (a_p0_holders := a_p0_holders) (a_p0_stirred := a_p0_stirred) (v_p0_places := w2) (v_p0_stirred := w4) (x1 := z1) (x2 := z14) (r := z19) (hf := hcall)) (cwV 2 hts gX2_passDay_X2_bowlOf rfl rfl rfl hdV_yX2_bowlOf_RX2 ⟨Nat.le_of_ble_eq_true rfl, Nat.le_of_ble_eq_true rfl⟩) (preG_V (ci := 2) (q := (RX2, TX2, 5)) (hP.sub [0, 7, 9] rfl) (hD.sub [0, 7, 9] rfl rfl) hK rfl rfl) rfl rfl hl.1 rfl (lv_room (Nat.le_of_ble_eq_true rfl)) dX2_passDay_89 ⟨Nat.le_of_ble_eq_true rfl, Nat.le_of_ble_eq_true rfl⟩) hP hD hS hA [0, 7, 9] rfl (fun H locs hP hD hS => ?_)
        clear hcall
        refine lv_iadd hx hb dX2_passDay_92 (z_ci (Int32.ofInt_add (w15 z14) z19) ?_)
        have hc := ck_c hf
        replace hf := ck_r hf
        refine zs_iast (wf := fun w20 => [(a_p0, .inr (2, [.ref a_p0_rules, .ref a_p0_state, .ref a_p0_places, .ref a_p0_holders, .ref a_p0_stirred])), (a_p0_rules, .inr (6, [.int (Int32.ofInt i_p0_rules_seats), .int (Int32.ofInt i_p0_rules_stirs), .ref a_p0_rules_need, .ref a_p0_rules_kind, .ref a_p0_rules_first, .ref a_p0_rules_second, .ref a_p0_rules_after])), (a_p0_rules_after, .inl (G 1, 35, .inl (zA v_p0_rules_after))), (a_p0_state, .inr (8, [.ref a_p0_state_pieces, .ref a_p0_state_friends, .ref a_p0_state_spoons, .ref a_p0_state_eaten, .ref a_p0_state_seen, .int (Int32.ofInt i_p0_state_seenDays), .int (Int32.ofInt z7), .int (Int32.ofInt i_p0_state_king), .int (Int32.ofInt i_p0_state_days)])), (a_p0_state_pieces, .inl (G 1, 7, .inl (zA w5))), (a_p0_state_friends, .inl (G 1, 7, .inl (zA v_p0_state_friends))), (a_p0_state_eaten, .inl (G 1, 7, .inl (zA w20))), (a_p0_places, .inl (G 1, 49, .inl (zA w2))), (a_p0_holders, .inl (G 1, 49, .inl (zA w3))), (a_p0_stirred, .inl (G 1, 7, .inl (zA w4)))]) hx hb hK hP hD hS 6 1 rfl rfl hc dX2_passDay_93 (fun _ => rfl) (fun w20 ez H locs hP hD hS => ?_)
        replace hf := bnd_s hf ez
        clear ez hc
        obtain ⟨z21, ez⟩ : ∃ y : Int, y = (z14 + (1 : Int)) := ⟨_, rfl⟩
        replace hf := bnd_s hf ez
        refine lv_iinc (v := Int32.ofInt z21) (lv' := [(3, .int (Int32.ofInt z21)), (2, .int (Int32.ofInt z1)), (0, .ref a_p0)]) hx hb dX2_passDay_94 hl (k := 0) rfl (by rw [ez]; exact (Int32.ofInt_add _ _).symm) (by decide) rfl (fun ls hl => ?_)
        clear ez
        refine lv_goto (tgt := 65) hx hb dX2_passDay_97 (by decide) ?_
        exact ih65 _ _ _ _ _ (lv_sub hl [0, 1, 2] rfl) hP hD hS hf
  exact hB16 _ _ _ _ _ _ (lv_sub hl [0, 1, 2] rfl) hP hD hS hf
