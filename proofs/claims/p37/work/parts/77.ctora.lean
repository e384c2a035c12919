
section GC
variable {D : va_G} {cl : List vw_C} {tys : List (ClassId × FieldType)} {s : State}
theorem cA_int (hK : va_K D cl tys s) {i j : Nat} {c1 c2 : ClassId} (h1 : tys[i]? = some (c1, .int)) (h2 : tys[j]? = some (c2, .int)) : c1 = c2 := Option.some.inj ((va_nm_int (hK.2 _ _ h1).2).symm.trans (va_nm_int (hK.2 _ _ h2).2))
theorem cA_long (hK : va_K D cl tys s) {i j : Nat} {c1 c2 : ClassId} (h1 : tys[i]? = some (c1, .long)) (h2 : tys[j]? = some (c2, .long)) : c1 = c2 := Option.some.inj ((va_nm_long (hK.2 _ _ h1).2).symm.trans (va_nm_long (hK.2 _ _ h2).2))
theorem cA_boolean (hK : va_K D cl tys s) {i j : Nat} {c1 c2 : ClassId} (h1 : tys[i]? = some (c1, .boolean)) (h2 : tys[j]? = some (c2, .boolean)) : c1 = c2 := Option.some.inj ((va_nm_boolean (hK.2 _ _ h1).2).symm.trans (va_nm_boolean (hK.2 _ _ h2).2))
theorem cA_byte (hK : va_K D cl tys s) {i j : Nat} {c1 c2 : ClassId} (h1 : tys[i]? = some (c1, .byte)) (h2 : tys[j]? = some (c2, .byte)) : c1 = c2 := Option.some.inj ((va_nm_byte (hK.2 _ _ h1).2).symm.trans (va_nm_byte (hK.2 _ _ h2).2))
theorem cA_obj (hK : va_K D cl tys s) {i j : Nat} {c1 c2 : ClassId} {C : String} (h1 : tys[i]? = some (c1, .object C)) (h2 : tys[j]? = some (c2, .object C)) : c1 = c2 := by
  obtain ⟨_, _, _, _, _, e1⟩ := (hK.2 _ _ h1).2
  obtain ⟨_, _, _, _, _, e2⟩ := (hK.2 _ _ h2).2
  exact Option.some.inj (e1.symm.trans e2)
end GC
abbrev rm_X6_init : Room := { frames := 1, cells := 5, slots := 57, locals := 12 }
theorem mcX6_init_0 : Cond.methodLink RX6 3 objectInit ∈ wsX6_init := by decide +kernel
theorem mcX6_init_1 : Cond.instanceMethod objectInit ∈ wsX6_init := by decide +kernel
theorem mcX6_init_2 : Cond.code objectInit ⟨#[0xb1]⟩ 1 none ∈ wsX6_init := by decide +kernel
theorem icX6_init_X6 : ∀ w ∈ wsX60, w ∈ wsX6_init := by decide +kernel
theorem mcX6_init_4 : Cond.fieldLink RX6 9 "LadleKings$Rules" "seats" "I" ∈ wsX6_init := by decide +kernel
theorem mcX6_init_5 : Cond.fieldLink RX6 15 "LadleKings$Rules" "stirs" "I" ∈ wsX6_init := by decide +kernel
theorem mcX6_init_6 : Cond.arrayClass .int ∈ wsX6_init := by decide +kernel
theorem mcX6_init_7 : Cond.fieldLink RX6 18 "LadleKings$Rules" "need" "[I" ∈ wsX6_init := by decide +kernel
theorem mcX6_init_8 : Cond.fieldLink RX6 22 "LadleKings$Rules" "kind" "[I" ∈ wsX6_init := by decide +kernel
theorem mcX6_init_9 : Cond.fieldLink RX6 25 "LadleKings$Rules" "first" "[I" ∈ wsX6_init := by decide +kernel
theorem mcX6_init_10 : Cond.fieldLink RX6 28 "LadleKings$Rules" "second" "[I" ∈ wsX6_init := by decide +kernel
theorem mcX6_init_11 : Cond.fieldLink RX6 31 "LadleKings$Rules" "after" "[I" ∈ wsX6_init := by decide +kernel
def pc_X6_init (D : va_G) (G : Nat → ClassId) (sz : Nat) (a_p0 : Nat) : Array Value → State → Prop := va_Pc [.ref a_p0] (fun U => U.heap.size = sz ∧ va_P D vwCl [(a_p0, .inr (6, [.int (Int32.ofInt (0 : Int)), .int (Int32.ofInt (0 : Int)), .null, .null, .null, .null, .null]))] U.heap ∧ va_K D vwCl (tyG G) U ∧ va_D (fun _ => True) [(a_p0, .inr (6, [.int (Int32.ofInt (0 : Int)), .int (Int32.ofInt (0 : Int)), .null, .null, .null, .null, .null]))])
set_option maxHeartbeats 8000000 in
set_option maxRecDepth 100000 in
theorem c_X6_init (l : Launch) (D : va_G) (G : Nat → ClassId) (sz : Nat) (a_p0 : Nat) : Met l yX6_init wsX6_init rm_X6_init (pc_X6_init D G sz a_p0) (va_Qv (fun (_ : Unit) => True) (fun _ t => ∃ q1 q2 q3 q4 q5 : Nat, va_P D vwCl [(a_p0, .inr (6, [.int (Int32.ofInt (4 : Int)), .int (Int32.ofInt (0 : Int)), .ref q1, .ref q2, .ref q3, .ref q4, .ref q5])), (q1, .inl (G 1, 7, .inl (zA (fun _ => (0 : Int))))), (q2, .inl (G 1, 5, .inl (zA (fun _ => (0 : Int))))), (q3, .inl (G 1, 5, .inl (zA (fun _ => (0 : Int))))), (q4, .inl (G 1, 5, .inl (zA (fun _ => (0 : Int))))), (q5, .inl (G 1, 35, .inl (zA (fun _ => (0 : Int)))))] t.heap ∧ va_K D vwCl (tyG G) t ∧ va_D (va_A [(a_p0, .inr (6, [.int (Int32.ofInt (0 : Int)), .int (Int32.ofInt (0 : Int)), .null, .null, .null, .null, .null]))] sz) [(a_p0, .inr (6, [.int (Int32.ofInt (4 : Int)), .int (Int32.ofInt (0 : Int)), .ref q1, .ref q2, .ref q3, .ref q4, .ref q5])), (q1, .inl (G 1, 7, .inl (zA (fun _ => (0 : Int))))), (q2, .inl (G 1, 5, .inl (zA (fun _ => (0 : Int))))), (q3, .inl (G 1, 5, .inl (zA (fun _ => (0 : Int))))), (q4, .inl (G 1, 5, .inl (zA (fun _ => (0 : Int))))), (q5, .inl (G 1, 35, .inl (zA (fun _ => (0 : Int)))))]) (va_A [(a_p0, .inr (6, [.int (Int32.ofInt (0 : Int)), .int (Int32.ofInt (0 : Int)), .null, .null, .null, .null, .null]))] sz)) 5 57 (va_A [(a_p0, .inr (6, [.int (Int32.ofInt (0 : Int)), .int (Int32.ofInt (0 : Int)), .null, .null, .null, .null, .null]))] sz) := by
  refine Met.ofW (cc := cX6_init) (maxL := 1) (ret := none) (by decide) rfl ?_
  intro p e s m args below meth c s₁ B hml hv
  obtain ⟨rfl, hsz, hP, hK, hD0⟩ := hv
  have hx := B.exec
  have hb := B.bytes
  have hr := B.returns
  have hts := atoms_spec (ws := wsX6_init) B.pre
  have hown : s.vm.findClass RX6 = some m.cls := findClass_of_methodNamed B.named
  have hlocks := B.notSynchronized
  have hin : meth.name = "<init>" := (name_of_methodNamed B.named B.method).1
  subst hsz
  have hD := hD0.self (sz := s.heap.size)
  generalize hAe : va_A [(a_p0, .inr (6, [.int (Int32.ofInt (0 : Int)), .int (Int32.ofInt (0 : Int)), .null, .null, .null, .null, .null]))] s.heap.size = A at hD ⊢
  have hA : ∀ q : Nat, s.heap.size ≤ q → A q := fun q h => by rw [← hAe]; exact Or.inr h
  clear hAe hD0
  have hS : va_S A s.heap s.heap [] := va_S.rf
  have hl := lv_entry ([.ref a_p0]) (n := 1) (Nat.le_of_ble_eq_true rfl)
  rw [lg_entry_eq]
  generalize (lg_sl ([.ref a_p0]) ++ List.replicate (1 - (lg_sl ([.ref a_p0])).length) Slot.unset).toArray = ls at hl ⊢
  have hl : lv_has ls 1 [(0, .ref a_p0)] := hl
  refine W_nameQ (fun Q hQ => ?_)
  refine lv_aload_n hx hb dX6_init_0 rfl (lv_at hl 0 rfl) ?_
  refine W.objInit hx hb hown (hts _ mcX6_init_0) (hts _ mcX6_init_1) (hts _ mcX6_init_2) rfl (by rw [hml]; exact hl.1) rfl dX6_init_1 (Nat.le_of_ble_eq_true rfl) (Nat.le_of_ble_eq_true rfl) ?_
  refine W.eq (g2 := F0 m 4 ls []) rfl ?_
  refine lv_aload_n hx hb dX6_init_4 rfl (lv_at hl 0 rfl) ?_
  refine lv_iconst (v := (Int32.ofInt (4 : Int))) hx hb dX6_init_5 (by decide) ?_
  refine va_put (D := D) (ci := 6) (v := .int (Int32.ofInt (4 : Int))) (ty := .int) (C := RX6) (T := TX6) (N := 7) hx hb hts icX6_init_X6 tyX6 tyX6_ok nmX6 hown hK hP hD hS 0 rfl rfl 0 (by decide) (hts _ mcX6_init_4) (fun _ h9 => h9) rfl (by decide +kernel) rfl rfl (Nat.le_of_ble_eq_true rfl) dX6_init_6 (fun H locs hP hD hS => ?_)
  have hP : va_P D vwCl [(a_p0, .inr (6, [.int (Int32.ofInt (4 : Int)), .int (Int32.ofInt (0 : Int)), .null, .null, .null, .null, .null]))] H := hP
  have hD : va_D A [(a_p0, .inr (6, [.int (Int32.ofInt (4 : Int)), .int (Int32.ofInt (0 : Int)), .null, .null, .null, .null, .null]))] := hD
  refine lv_aload_n hx hb dX6_init_9 rfl (lv_at hl 0 rfl) ?_
  refine lv_iconst (v := (Int32.ofInt (0 : Int))) hx hb dX6_init_10 (by decide) ?_
  refine va_put (D := D) (ci := 6) (v := .int (Int32.ofInt (0 : Int))) (ty := .int) (C := RX6) (T := TX6) (N := 7) hx hb hts icX6_init_X6 tyX6 tyX6_ok nmX6 hown hK hP hD hS 0 rfl rfl 1 (by decide) (hts _ mcX6_init_5) (fun _ h9 => h9) rfl (by decide +kernel) rfl rfl (Nat.le_of_ble_eq_true rfl) dX6_init_11 (fun H locs hP hD hS => ?_)
  have hP : va_P D vwCl [(a_p0, .inr (6, [.int (Int32.ofInt (4 : Int)), .int (Int32.ofInt (0 : Int)), .null, .null, .null, .null, .null]))] H := hP
  have hD : va_D A [(a_p0, .inr (6, [.int (Int32.ofInt (4 : Int)), .int (Int32.ofInt (0 : Int)), .null, .null, .null, .null, .null]))] := hD
  refine lv_aload_n hx hb dX6_init_14 rfl (lv_at hl 0 rfl) ?_
  refine lv_bipush (v := (Int32.ofInt (7 : Int))) hx hb dX6_init_15 (by decide) ?_
  refine va_newa (atype := .int) (ty := .int) (N' := 7) (a0 := (7, .inl (zA (fun _ => (0 : Int))))) hx hb (hts _ mcX6_init_6) rfl hK hP hD hS hA (fun _ => rfl) (by decide) (by decide) (Nat.le_of_ble_eq_true rfl) (Nat.le_of_ble_eq_true rfl) (Nat.le_of_ble_eq_true rfl) dX6_init_17 (fun q1 cA H hK2 hP hD hS => ?_)
  obtain rfl : G 1 = cA := cA_int hK2 (i := 1) (j := 6) rfl rfl
  clear hK2
  have hP : va_P D vwCl [(a_p0, .inr (6, [.int (Int32.ofInt (4 : Int)), .int (Int32.ofInt (0 : Int)), .null, .null, .null, .null, .null])), (q1, .inl (G 1, 7, .inl (zA (fun _ => (0 : Int)))))] H := hP
  have hD : va_D A [(a_p0, .inr (6, [.int (Int32.ofInt (4 : Int)), .int (Int32.ofInt (0 : Int)), .null, .null, .null, .null, .null])), (q1, .inl (G 1, 7, .inl (zA (fun _ => (0 : Int)))))] := hD
  refine va_putF (D := D) (ci := 6) (v := .ref q1) (ty := .array .int) (C := RX6) (T := TX6) (N := 7) hx hb hts icX6_init_X6 tyX6 tyX6_ok nmX6 hown hK hP hD hS 0 rfl rfl 2 (by decide) (hts _ mcX6_init_7) (fun _ h9 => h9) rfl hin rfl (by decide +kernel) rfl rfl (Nat.le_of_ble_eq_true rfl) dX6_init_19 (fun H locs hP hD hS => ?_)
  have hP : va_P D vwCl [(a_p0, .inr (6, [.int (Int32.ofInt (4 : Int)), .int (Int32.ofInt (0 : Int)), .ref q1, .null, .null, .null, .null])), (q1, .inl (G 1, 7, .inl (zA (fun _ => (0 : Int)))))] H := hP
  have hD : va_D A [(a_p0, .inr (6, [.int (Int32.ofInt (4 : Int)), .int (Int32.ofInt (0 : Int)), .ref q1, .null, .null, .null, .null])), (q1, .inl (G 1, 7, .inl (zA (fun _ => (0 : Int)))))] := hD
  refine lv_aload_n hx hb dX6_init_22 rfl (lv_at hl 0 rfl) ?_
  refine lv_iconst (v := (Int32.ofInt (5 : Int))) hx hb dX6_init_23 (by decide) ?_
  refine va_newa (atype := .int) (ty := .int) (N' := 5) (a0 := (5, .inl (zA (fun _ => (0 : Int))))) hx hb (hts _ mcX6_init_6) rfl hK hP hD hS hA (fun _ => rfl) (by decide) (by decide) (Nat.le_of_ble_eq_true rfl) (Nat.le_of_ble_eq_true rfl) (Nat.le_of_ble_eq_true rfl) dX6_init_24 (fun q2 cA H hK2 hP hD hS => ?_)
  obtain rfl : G 1 = cA := cA_int hK2 (i := 1) (j := 6) rfl rfl
  clear hK2
  have hP : va_P D vwCl [(a_p0, .inr (6, [.int (Int32.ofInt (4 : Int)), .int (Int32.ofInt (0 : Int)), .ref q1, .null, .null, .null, .null])), (q1, .inl (G 1, 7, .inl (zA (fun _ => (0 : Int))))), (q2, .inl (G 1, 5, .inl (zA (fun _ => (0 : Int)))))] H := hP
  have hD : va_D A [(a_p0, .inr (6, [.int (Int32.ofInt (4 : Int)), .int (Int32.ofInt (0 : Int)), .ref q1, .null, .null, .null, .null])), (q1, .inl (G 1, 7, .inl (zA (fun _ => (0 : Int))))), (q2, .inl (G 1, 5, .inl (zA (fun _ => (0 : Int)))))] := hD
  refine va_putF (D := D) (ci := 6) (v := .ref q2) (ty := .array .int) (C := RX6) (T := TX6) (N := 7) hx hb hts icX6_init_X6 tyX6 tyX6_ok nmX6 hown hK hP hD hS 0 rfl rfl 3 (by decide) (hts _ mcX6_init_8) (fun _ h9 => h9) rfl hin rfl (by decide +kernel) rfl rfl (Nat.le_of_ble_eq_true rfl) dX6_init_26 (fun H locs hP hD hS => ?_)
  have hP : va_P D vwCl [(a_p0, .inr (6, [.int (Int32.ofInt (4 : Int)), .int (Int32.ofInt (0 : Int)), .ref q1, .ref q2, .null, .null, .null])), (q1, .inl (G 1, 7, .inl (zA (fun _ => (0 : Int))))), (q2, .inl (G 1, 5, .inl (zA (fun _ => (0 : Int)))))] H := hP
  have hD : va_D A [(a_p0, .inr (6, [.int (Int32.ofInt (4 : Int)), .int (Int32.ofInt (0 : Int)), .ref q1, .ref q2, .null, .null, .null])), (q1, .inl (G 1, 7, .inl (zA (fun _ => (0 : Int))))), (q2, .inl (G 1, 5, .inl (zA (fun _ => (0 : Int)))))] := hD
  refine lv_aload_n hx hb dX6_init_29 rfl (lv_at hl 0 rfl) ?_
  refine lv_iconst (v := (Int32.ofInt (5 : Int))) hx hb dX6_init_30 (by decide) ?_
  refine va_newa (atype := .int) (ty := .int) (N' := 5) (a0 := (5, .inl (zA (fun _ => (0 : Int))))) hx hb (hts _ mcX6_init_6) rfl hK hP hD hS hA (fun _ => rfl) (by decide) (by decide) (Nat.le_of_ble_eq_true rfl) (Nat.le_of_ble_eq_true rfl) (Nat.le_of_ble_eq_true rfl) dX6_init_31 (fun q3 cA H hK2 hP hD hS => ?_)
  obtain rfl : G 1 = cA := cA_int hK2 (i := 1) (j := 6) rfl rfl
  clear hK2
  have hP : va_P D vwCl [(a_p0, .inr (6, [.int (Int32.ofInt (4 : Int)), .int (Int32.ofInt (0 : Int)), .ref q1, .ref q2, .null, .null, .null])), (q1, .inl (G 1, 7, .inl (zA (fun _ => (0 : Int))))), (q2, .inl (G 1, 5, .inl (zA (fun _ => (0 : Int))))), (q3, .inl (G 1, 5, .inl (zA (fun _ => (0 : Int)))))] H := hP
  have hD : va_D A [(a_p0, .inr (6, [.int (Int32.ofInt (4 : Int)), .int (Int32.ofInt (0 : Int)), .ref q1, .ref q2, .null, .null, .null])), (q1, .inl (G 1, 7, .inl (zA (fun _ => (0 : Int))))), (q2, .inl (G 1, 5, .inl (zA (fun _ => (0 : Int))))), (q3, .inl (G 1, 5, .inl (zA (fun _ => (0 : Int)))))] := hD
  refine va_putF (D := D) (ci := 6) (v := .ref q3) (ty := .array .int) (C := RX6) (T := TX6) (N := 7) hx hb hts icX6_init_X6 tyX6 tyX6_ok nmX6 hown hK hP hD hS 0 rfl rfl 4 (by decide) (hts _ mcX6_init_9) (fun _ h9 => h9) rfl hin rfl (by decide +kernel) rfl rfl (Nat.le_of_ble_eq_true rfl) dX6_init_33 (fun H locs hP hD hS => ?_)
  have hP : va_P D vwCl [(a_p0, .inr (6, [.int (Int32.ofInt (4 : Int)), .int (Int32.ofInt (0 : Int)), .ref q1, .ref q2, .ref q3, .null, .null])), (q1, .inl (G 1, 7, .inl (zA (fun _ => (0 : Int))))), (q2, .inl (G 1, 5, .inl (zA (fun _ => (0 : Int))))), (q3, .inl (G 1, 5, .inl (zA (fun _ => (0 : Int)))))] H := hP
  have hD : va_D A [(a_p0, .inr (6, [.int (Int32.ofInt (4 : Int)), .int (Int32.ofInt (0 : Int)), .ref q1, .ref q2, .ref q3, .null, .null])), (q1, .inl (G 1, 7, .inl (zA (fun _ => (0 : Int))))), (q2, .inl (G 1, 5, .inl (zA (fun _ => (0 : Int))))), (q3, .inl (G 1, 5, .inl (zA (fun _ => (0 : Int)))))] := hD
  refine lv_aload_n hx hb dX6_init_36 rfl (lv_at hl 0 rfl) ?_
  refine lv_iconst (v := (Int32.ofInt (5 : Int))) hx hb dX6_init_37 (by decide) ?_
  refine va_newa (atype := .int) (ty := .int) (N' := 5) (a0 := (5, .inl (zA (fun _ => (0 : Int))))) hx hb (hts _ mcX6_init_6) rfl hK hP hD hS hA (fun _ => rfl) (by decide) (by decide) (Nat.le_of_ble_eq_true rfl) (Nat.le_of_ble_eq_true rfl) (Nat.le_of_ble_eq_true rfl) dX6_init_38 (fun q4 cA H hK2 hP hD hS => ?_)
  obtain rfl : G 1 = cA := cA_int hK2 (i := 1) (j := 6) rfl rfl
  clear hK2
  have hP : va_P D vwCl [(a_p0, .inr (6, [.int (Int32.ofInt (4 : Int)), .int (Int32.ofInt (0 : Int)), .ref q1, .ref q2, .ref q3, .null, .null])), (q1, .inl (G 1, 7, .inl (zA (fun _ => (0 : Int))))), (q2, .inl (G 1, 5, .inl (zA (fun _ => (0 : Int))))), (q3, .inl (G 1, 5, .inl (zA (fun _ => (0 : Int))))), (q4, .inl (G 1, 5, .inl (zA (fun _ => (0 : Int)))))] H := hP
  have hD : va_D A [(a_p0, .inr (6, [.int (Int32.ofInt (4 : Int)), .int (Int32.ofInt (0 : Int)), .ref q1, .ref q2, .ref q3, .null, .null])), (q1, .inl (G 1, 7, .inl (zA (fun _ => (0 : Int))))), (q2, .inl (G 1, 5, .inl (zA (fun _ => (0 : Int))))), (q3, .inl (G 1, 5, .inl (zA (fun _ => (0 : Int))))), (q4, .inl (G 1, 5, .inl (zA (fun _ => (0 : Int)))))] := hD
  refine va_putF (D := D) (ci := 6) (v := .ref q4) (ty := .array .int) (C := RX6) (T := TX6) (N := 7) hx hb hts icX6_init_X6 tyX6 tyX6_ok nmX6 hown hK hP hD hS 0 rfl rfl 5 (by decide) (hts _ mcX6_init_10) (fun _ h9 => h9) rfl hin rfl (by decide +kernel) rfl rfl (Nat.le_of_ble_eq_true rfl) dX6_init_40 (fun H locs hP hD hS => ?_)
  have hP : va_P D vwCl [(a_p0, .inr (6, [.int (Int32.ofInt (4 : Int)), .int (Int32.ofInt (0 : Int)), .ref q1, .ref q2, .ref q3, .ref q4, .null])), (q1, .inl (G 1, 7, .inl (zA (fun _ => (0 : Int))))), (q2, .inl (G 1, 5, .inl (zA (fun _ => (0 : Int))))), (q3, .inl (G 1, 5, .inl (zA (fun _ => (0 : Int))))), (q4, .inl (G 1, 5, .inl (zA (fun _ => (0 : Int)))))] H := hP
  have hD : va_D A [(a_p0, .inr (6, [.int (Int32.ofInt (4 : Int)), .int (Int32.ofInt (0 : Int)), .ref q1, .ref q2, .ref q3, .ref q4, .null])), (q1, .inl (G 1, 7, .inl (zA (fun _ => (0 : Int))))), (q2, .inl (G 1, 5, .inl (zA (fun _ => (0 : Int))))), (q3, .inl (G 1, 5, .inl (zA (fun _ => (0 : Int))))), (q4, .inl (G 1, 5, .inl (zA (fun _ => (0 : Int)))))] := hD
  refine lv_aload_n hx hb dX6_init_43 rfl (lv_at hl 0 rfl) ?_
  refine lv_bipush (v := (Int32.ofInt (35 : Int))) hx hb dX6_init_44 (by decide) ?_
  refine va_newa (atype := .int) (ty := .int) (N' := 35) (a0 := (35, .inl (zA (fun _ => (0 : Int))))) hx hb (hts _ mcX6_init_6) rfl hK hP hD hS hA (fun _ => rfl) (by decide) (by decide) (Nat.le_of_ble_eq_true rfl) (Nat.le_of_ble_eq_true rfl) (Nat.le_of_ble_eq_true rfl) dX6_init_46 (fun q5 cA H hK2 hP hD hS => ?_)
  obtain rfl : G 1 = cA := cA_int hK2 (i := 1) (j := 6) rfl rfl
  clear hK2
  have hP : va_P D vwCl [(a_p0, .inr (6, [.int (Int32.ofInt (4 : Int)), .int (Int32.ofInt (0 : Int)), .ref q1, .ref q2, .ref q3, .ref q4, .null])), (q1, .inl (G 1, 7, .inl (zA (fun _ => (0 : Int))))), (q2, .inl (G 1, 5, .inl (zA (fun _ => (0 : Int))))), (q3, .inl (G 1, 5, .inl (zA (fun _ => (0 : Int))))), (q4, .inl (G 1, 5, .inl (zA (fun _ => (0 : Int))))), (q5, .inl (G 1, 35, .inl (zA (fun _ => (0 : Int)))))] H := hP
  have hD : va_D A [(a_p0, .inr (6, [.int (Int32.ofInt (4 : Int)), .int (Int32.ofInt (0 : Int)), .ref q1, .ref q2, .ref q3, .ref q4, .null])), (q1, .inl (G 1, 7, .inl (zA (fun _ => (0 : Int))))), (q2, .inl (G 1, 5, .inl (zA (fun _ => (0 : Int))))), (q3, .inl (G 1, 5, .inl (zA (fun _ => (0 : Int))))), (q4, .inl (G 1, 5, .inl (zA (fun _ => (0 : Int))))), (q5, .inl (G 1, 35, .inl (zA (fun _ => (0 : Int)))))] := hD
  refine va_putF (D := D) (ci := 6) (v := .ref q5) (ty := .array .int) (C := RX6) (T := TX6) (N := 7) hx hb hts icX6_init_X6 tyX6 tyX6_ok nmX6 hown hK hP hD hS 0 rfl rfl 6 (by decide) (hts _ mcX6_init_11) (fun _ h9 => h9) rfl hin rfl (by decide +kernel) rfl rfl (Nat.le_of_ble_eq_true rfl) dX6_init_48 (fun H locs hP hD hS => ?_)
  have hP : va_P D vwCl [(a_p0, .inr (6, [.int (Int32.ofInt (4 : Int)), .int (Int32.ofInt (0 : Int)), .ref q1, .ref q2, .ref q3, .ref q4, .ref q5])), (q1, .inl (G 1, 7, .inl (zA (fun _ => (0 : Int))))), (q2, .inl (G 1, 5, .inl (zA (fun _ => (0 : Int))))), (q3, .inl (G 1, 5, .inl (zA (fun _ => (0 : Int))))), (q4, .inl (G 1, 5, .inl (zA (fun _ => (0 : Int))))), (q5, .inl (G 1, 35, .inl (zA (fun _ => (0 : Int)))))] H := hP
  have hD : va_D A [(a_p0, .inr (6, [.int (Int32.ofInt (4 : Int)), .int (Int32.ofInt (0 : Int)), .ref q1, .ref q2, .ref q3, .ref q4, .ref q5])), (q1, .inl (G 1, 7, .inl (zA (fun _ => (0 : Int))))), (q2, .inl (G 1, 5, .inl (zA (fun _ => (0 : Int))))), (q3, .inl (G 1, 5, .inl (zA (fun _ => (0 : Int))))), (q4, .inl (G 1, 5, .inl (zA (fun _ => (0 : Int))))), (q5, .inl (G 1, 35, .inl (zA (fun _ => (0 : Int)))))] := hD
  rw [hQ]
  exact W.vret hx hb hr (fun t ht hW => ⟨⟨(), rfl, trivial, q1, q2, q3, q4, q5, by rw [ht]; exact hP, va_K.moved hW.alike hK, hD⟩, hS.F ht⟩) hS.2.2 dX6_init_51

abbrev rm_X8_init : Room := { frames := 1, cells := 5, slots := 34, locals := 23 }
theorem mcX8_init_0 : Cond.methodLink RX8 3 objectInit ∈ wsX8_init := by decide +kernel
theorem mcX8_init_1 : Cond.instanceMethod objectInit ∈ wsX8_init := by decide +kernel
theorem mcX8_init_2 : Cond.code objectInit ⟨#[0xb1]⟩ 1 none ∈ wsX8_init := by decide +kernel
theorem mcX8_init_3 : Cond.arrayClass .int ∈ wsX8_init := by decide +kernel
theorem icX8_init_X8 : ∀ w ∈ wsX80, w ∈ wsX8_init := by decide +kernel
theorem mcX8_init_5 : Cond.fieldLink RX8 9 "LadleKings$State" "pieces" "[I" ∈ wsX8_init := by decide +kernel
theorem mcX8_init_6 : Cond.fieldLink RX8 15 "LadleKings$State" "friends" "[I" ∈ wsX8_init := by decide +kernel
theorem mcX8_init_7 : Cond.fieldLink RX8 18 "LadleKings$State" "spoons" "[I" ∈ wsX8_init := by decide +kernel
theorem mcX8_init_8 : Cond.fieldLink RX8 21 "LadleKings$State" "eaten" "[I" ∈ wsX8_init := by decide +kernel
theorem mcX8_init_9 : Cond.fieldLink RX8 24 "LadleKings$State" "seen" "[I" ∈ wsX8_init := by decide +kernel
theorem mcX8_init_10 : Cond.fieldLink RX8 27 "LadleKings$State" "seenDays" "I" ∈ wsX8_init := by decide +kernel
theorem mcX8_init_11 : Cond.fieldLink RX8 31 "LadleKings$State" "bone" "I" ∈ wsX8_init := by decide +kernel
theorem mcX8_init_12 : Cond.fieldLink RX8 34 "LadleKings$State" "king" "I" ∈ wsX8_init := by decide +kernel
theorem mcX8_init_13 : Cond.fieldLink RX8 37 "LadleKings$State" "days" "I" ∈ wsX8_init := by decide +kernel
def pc_X8_init (D : va_G) (G : Nat → ClassId) (sz : Nat) (a_p0 : Nat) : Array Value → State → Prop := va_Pc [.ref a_p0] (fun U => U.heap.size = sz ∧ va_P D vwCl [(a_p0, .inr (8, [.null, .null, .null, .null, .null, .int (Int32.ofInt (0 : Int)), .int (Int32.ofInt (0 : Int)), .int (Int32.ofInt (0 : Int)), .int (Int32.ofInt (0 : Int))]))] U.heap ∧ va_K D vwCl (tyG G) U ∧ va_D (fun _ => True) [(a_p0, .inr (8, [.null, .null, .null, .null, .null, .int (Int32.ofInt (0 : Int)), .int (Int32.ofInt (0 : Int)), .int (Int32.ofInt (0 : Int)), .int (Int32.ofInt (0 : Int))]))])
set_option maxHeartbeats 8000000 in
set_option maxRecDepth 100000 in
theorem c_X8_init (l : Launch) (D : va_G) (G : Nat → ClassId) (sz : Nat) (a_p0 : Nat) (u_fill0_0 : (Int → Int)) (h_fill0 : f_J7_fill_53178 7 (fun _ => (0 : Int)) (1 : Int) = some u_fill0_0) : Met l yX8_init wsX8_init rm_X8_init (pc_X8_init D G sz a_p0) (va_Qv (fun (_ : Unit) => True) (fun _ t => ∃ q1 q2 q3 q4 q5 : Nat, va_P D vwCl [(a_p0, .inr (8, [.ref q1, .ref q2, .ref q3, .ref q4, .ref q5, .int (Int32.ofInt (0 : Int)), .int (Int32.ofInt (0 : Int)), .int (Int32.ofInt (0 : Int)), .int (Int32.ofInt (0 : Int))])), (q1, .inl (G 1, 7, .inl (zA (fun _ => (0 : Int))))), (q2, .inl (G 1, 7, .inl (zA (fun _ => (0 : Int))))), (q3, .inl (G 1, 7, .inl (zA u_fill0_0))), (q4, .inl (G 1, 7, .inl (zA (fun _ => (0 : Int))))), (q5, .inl (G 1, 6, .inl (zA (fun _ => (0 : Int)))))] t.heap ∧ va_K D vwCl (tyG G) t ∧ va_D (va_A [(a_p0, .inr (8, [.null, .null, .null, .null, .null, .int (Int32.ofInt (0 : Int)), .int (Int32.ofInt (0 : Int)), .int (Int32.ofInt (0 : Int)), .int (Int32.ofInt (0 : Int))]))] sz) [(a_p0, .inr (8, [.ref q1, .ref q2, .ref q3, .ref q4, .ref q5, .int (Int32.ofInt (0 : Int)), .int (Int32.ofInt (0 : Int)), .int (Int32.ofInt (0 : Int)), .int (Int32.ofInt (0 : Int))])), (q1, .inl (G 1, 7, .inl (zA (fun _ => (0 : Int))))), (q2, .inl (G 1, 7, .inl (zA (fun _ => (0 : Int))))), (q3, .inl (G 1, 7, .inl (zA u_fill0_0))), (q4, .inl (G 1, 7, .inl (zA (fun _ => (0 : Int))))), (q5, .inl (G 1, 6, .inl (zA (fun _ => (0 : Int)))))]) (va_A [(a_p0, .inr (8, [.null, .null, .null, .null, .null, .int (Int32.ofInt (0 : Int)), .int (Int32.ofInt (0 : Int)), .int (Int32.ofInt (0 : Int)), .int (Int32.ofInt (0 : Int))]))] sz)) 5 34 (va_A [(a_p0, .inr (8, [.null, .null, .null, .null, .null, .int (Int32.ofInt (0 : Int)), .int (Int32.ofInt (0 : Int)), .int (Int32.ofInt (0 : Int)), .int (Int32.ofInt (0 : Int))]))] sz) := by
  refine Met.ofW (cc := cX8_init) (maxL := 1) (ret := none) (by decide) rfl ?_
  intro p e s m args below meth c s₁ B hml hv
  obtain ⟨rfl, hsz, hP, hK, hD0⟩ := hv
  have hx := B.exec
  have hb := B.bytes
  have hr := B.returns
  have hts := atoms_spec (ws := wsX8_init) B.pre
  have hown : s.vm.findClass RX8 = some m.cls := findClass_of_methodNamed B.named
  have hlocks := B.notSynchronized
  have hin : meth.name = "<init>" := (name_of_methodNamed B.named B.method).1
  subst hsz
  have hD := hD0.self (sz := s.heap.size)
  generalize hAe : va_A [(a_p0, .inr (8, [.null, .null, .null, .null, .null, .int (Int32.ofInt (0 : Int)), .int (Int32.ofInt (0 : Int)), .int (Int32.ofInt (0 : Int)), .int (Int32.ofInt (0 : Int))]))] s.heap.size = A at hD ⊢
  have hA : ∀ q : Nat, s.heap.size ≤ q → A q := fun q h => by rw [← hAe]; exact Or.inr h
  clear hAe hD0
  have hS : va_S A s.heap s.heap [] := va_S.rf
  have hl := lv_entry ([.ref a_p0]) (n := 1) (Nat.le_of_ble_eq_true rfl)
  rw [lg_entry_eq]
  generalize (lg_sl ([.ref a_p0]) ++ List.replicate (1 - (lg_sl ([.ref a_p0])).length) Slot.unset).toArray = ls at hl ⊢
  have hl : lv_has ls 1 [(0, .ref a_p0)] := hl
  refine W_nameQ (fun Q hQ => ?_)
  refine lv_aload_n hx hb dX8_init_0 rfl (lv_at hl 0 rfl) ?_
  refine W.objInit hx hb hown (hts _ mcX8_init_0) (hts _ mcX8_init_1) (hts _ mcX8_init_2) rfl (by rw [hml]; exact hl.1) rfl dX8_init_1 (Nat.le_of_ble_eq_true rfl) (Nat.le_of_ble_eq_true rfl) ?_
  refine W.eq (g2 := F0 m 4 ls []) rfl ?_
  refine lv_aload_n hx hb dX8_init_4 rfl (lv_at hl 0 rfl) ?_
  refine lv_bipush (v := (Int32.ofInt (7 : Int))) hx hb dX8_init_5 (by decide) ?_
  refine va_newa (atype := .int) (ty := .int) (N' := 7) (a0 := (7, .inl (zA (fun _ => (0 : Int))))) hx hb (hts _ mcX8_init_3) rfl hK hP hD hS hA (fun _ => rfl) (by decide) (by decide) (Nat.le_of_ble_eq_true rfl) (Nat.le_of_ble_eq_true rfl) (Nat.le_of_ble_eq_true rfl) dX8_init_7 (fun q1 cA H hK2 hP hD hS => ?_)
  obtain rfl : G 1 = cA := cA_int hK2 (i := 1) (j := 6) rfl rfl
  clear hK2
  have hP : va_P D vwCl [(a_p0, .inr (8, [.null, .null, .null, .null, .null, .int (Int32.ofInt (0 : Int)), .int (Int32.ofInt (0 : Int)), .int (Int32.ofInt (0 : Int)), .int (Int32.ofInt (0 : Int))])), (q1, .inl (G 1, 7, .inl (zA (fun _ => (0 : Int)))))] H := hP
  have hD : va_D A [(a_p0, .inr (8, [.null, .null, .null, .null, .null, .int (Int32.ofInt (0 : Int)), .int (Int32.ofInt (0 : Int)), .int (Int32.ofInt (0 : Int)), .int (Int32.ofInt (0 : Int))])), (q1, .inl (G 1, 7, .inl (zA (fun _ => (0 : Int)))))] := hD
  refine va_putF (D := D) (ci := 8) (v := .ref q1) (ty := .array .int) (C := RX8) (T := TX8) (N := 9) hx hb hts icX8_init_X8 tyX8 tyX8_ok nmX8 hown hK hP hD hS 0 rfl rfl 0 (by decide) (hts _ mcX8_init_5) (fun _ h9 => h9) rfl hin rfl (by decide +kernel) rfl rfl (Nat.le_of_ble_eq_true rfl) dX8_init_9 (fun H locs hP hD hS => ?_)
  have hP : va_P D vwCl [(a_p0, .inr (8, [.ref q1, .null, .null, .null, .null, .int (Int32.ofInt (0 : Int)), .int (Int32.ofInt (0 : Int)), .int (Int32.ofInt (0 : Int)), .int (Int32.ofInt (0 : Int))])), (q1, .inl (G 1, 7, .inl (zA (fun _ => (0 : Int)))))] H := hP
  have hD : va_D A [(a_p0, .inr (8, [.ref q1, .null, .null, .null, .null, .int (Int32.ofInt (0 : Int)), .int (Int32.ofInt (0 : Int)), .int (Int32.ofInt (0 : Int)), .int (Int32.ofInt (0 : Int))])), (q1, .inl (G 1, 7, .inl (zA (fun _ => (0 : Int)))))] := hD
  refine lv_aload_n hx hb dX8_init_12 rfl (lv_at hl 0 rfl) ?_
  refine lv_bipush (v := (Int32.ofInt (7 : Int))) hx hb dX8_init_13 (by decide) ?_
  refine va_newa (atype := .int) (ty := .int) (N' := 7) (a0 := (7, .inl (zA (fun _ => (0 : Int))))) hx hb (hts _ mcX8_init_3) rfl hK hP hD hS hA (fun _ => rfl) (by decide) (by decide) (Nat.le_of_ble_eq_true rfl) (Nat.le_of_ble_eq_true rfl) (Nat.le_of_ble_eq_true rfl) dX8_init_15 (fun q2 cA H hK2 hP hD hS => ?_)
  obtain rfl : G 1 = cA := cA_int hK2 (i := 1) (j := 6) rfl rfl
  clear hK2
  have hP : va_P D vwCl [(a_p0, .inr (8, [.ref q1, .null, .null, .null, .null, .int (Int32.ofInt (0 : Int)), .int (Int32.ofInt (0 : Int)), .int (Int32.ofInt (0 : Int)), .int (Int32.ofInt (0 : Int))])), (q1, .inl (G 1, 7, .inl (zA (fun _ => (0 : Int))))), (q2, .inl (G 1, 7, .inl (zA (fun _ => (0 : Int)))))] H := hP
  have hD : va_D A [(a_p0, .inr (8, [.ref q1, .null, .null, .null, .null, .int (Int32.ofInt (0 : Int)), .int (Int32.ofInt (0 : Int)), .int (Int32.ofInt (0 : Int)), .int (Int32.ofInt (0 : Int))])), (q1, .inl (G 1, 7, .inl (zA (fun _ => (0 : Int))))), (q2, .inl (G 1, 7, .inl (zA (fun _ => (0 : Int)))))] := hD
  refine va_putF (D := D) (ci := 8) (v := .ref q2) (ty := .array .int) (C := RX8) (T := TX8) (N := 9) hx hb hts icX8_init_X8 tyX8 tyX8_ok nmX8 hown hK hP hD hS 0 rfl rfl 1 (by decide) (hts _ mcX8_init_6) (fun _ h9 => h9) rfl hin rfl (by decide +kernel) rfl rfl (Nat.le_of_ble_eq_true rfl) dX8_init_17 (fun H locs hP hD hS => ?_)
  have hP : va_P D vwCl [(a_p0, .inr (8, [.ref q1, .ref q2, .null, .null, .null, .int (Int32.ofInt (0 : Int)), .int (Int32.ofInt (0 : Int)), .int (Int32.ofInt (0 : Int)), .int (Int32.ofInt (0 : Int))])), (q1, .inl (G 1, 7, .inl (zA (fun _ => (0 : Int))))), (q2, .inl (G 1, 7, .inl (zA (fun _ => (0 : Int)))))] H := hP
  have hD : va_D A [(a_p0, .inr (8, [.ref q1, .ref q2, .null, .null, .null, .int (Int32.ofInt (0 : Int)), .int (Int32.ofInt (0 : Int)), .int (Int32.ofInt (0 : Int)), .int (Int32.ofInt (0 : Int))])), (q1, .inl (G 1, 7, .inl (zA (fun _ => (0 : Int))))), (q2, .inl (G 1, 7, .inl (zA (fun _ => (0 : Int)))))] := hD
  refine lv_aload_n hx hb dX8_init_20 rfl (lv_at hl 0 rfl) ?_
  refine lv_bipush (v := (Int32.ofInt (7 : Int))) hx hb dX8_init_21 (by decide) ?_
  refine va_newa (atype := .int) (ty := .int) (N' := 7) (a0 := (7, .inl (zA (fun _ => (0 : Int))))) hx hb (hts _ mcX8_init_3) rfl hK hP hD hS hA (fun _ => rfl) (by decide) (by decide) (Nat.le_of_ble_eq_true rfl) (Nat.le_of_ble_eq_true rfl) (Nat.le_of_ble_eq_true rfl) dX8_init_23 (fun q3 cA H hK2 hP hD hS => ?_)
  obtain rfl : G 1 = cA := cA_int hK2 (i := 1) (j := 6) rfl rfl
  clear hK2
  have hP : va_P D vwCl [(a_p0, .inr (8, [.ref q1, .ref q2, .null, .null, .null, .int (Int32.ofInt (0 : Int)), .int (Int32.ofInt (0 : Int)), .int (Int32.ofInt (0 : Int)), .int (Int32.ofInt (0 : Int))])), (q1, .inl (G 1, 7, .inl (zA (fun _ => (0 : Int))))), (q2, .inl (G 1, 7, .inl (zA (fun _ => (0 : Int))))), (q3, .inl (G 1, 7, .inl (zA (fun _ => (0 : Int)))))] H := hP
  have hD : va_D A [(a_p0, .inr (8, [.ref q1, .ref q2, .null, .null, .null, .int (Int32.ofInt (0 : Int)), .int (Int32.ofInt (0 : Int)), .int (Int32.ofInt (0 : Int)), .int (Int32.ofInt (0 : Int))])), (q1, .inl (G 1, 7, .inl (zA (fun _ => (0 : Int))))), (q2, .inl (G 1, 7, .inl (zA (fun _ => (0 : Int))))), (q3, .inl (G 1, 7, .inl (zA (fun _ => (0 : Int)))))] := hD
  refine va_putF (D := D) (ci := 8) (v := .ref q3) (ty := .array .int) (C := RX8) (T := TX8) (N := 9) hx hb hts icX8_init_X8 tyX8 tyX8_ok nmX8 hown hK hP hD hS 0 rfl rfl 2 (by decide) (hts _ mcX8_init_7) (fun _ h9 => h9) rfl hin rfl (by decide +kernel) rfl rfl (Nat.le_of_ble_eq_true rfl) dX8_init_25 (fun H locs hP hD hS => ?_)
  have hP : va_P D vwCl [(a_p0, .inr (8, [.ref q1, .ref q2, .ref q3, .null, .null, .int (Int32.ofInt (0 : Int)), .int (Int32.ofInt (0 : Int)), .int (Int32.ofInt (0 : Int)), .int (Int32.ofInt (0 : Int))])), (q1, .inl (G 1, 7, .inl (zA (fun _ => (0 : Int))))), (q2, .inl (G 1, 7, .inl (zA (fun _ => (0 : Int))))), (q3, .inl (G 1, 7, .inl (zA (fun _ => (0 : Int)))))] H := hP
  have hD : va_D A [(a_p0, .inr (8, [.ref q1, .ref q2, .ref q3, .null, .null, .int (Int32.ofInt (0 : Int)), .int (Int32.ofInt (0 : Int)), .int (Int32.ofInt (0 : Int)), .int (Int32.ofInt (0 : Int))])), (q1, .inl (G 1, 7, .inl (zA (fun _ => (0 : Int))))), (q2, .inl (G 1, 7, .inl (zA (fun _ => (0 : Int))))), (q3, .inl (G 1, 7, .inl (zA (fun _ => (0 : Int)))))] := hD
  refine lv_aload_n hx hb dX8_init_28 rfl (lv_at hl 0 rfl) ?_
  refine lv_bipush (v := (Int32.ofInt (7 : Int))) hx hb dX8_init_29 (by decide) ?_
  refine va_newa (atype := .int) (ty := .int) (N' := 7) (a0 := (7, .inl (zA (fun _ => (0 : Int))))) hx hb (hts _ mcX8_init_3) rfl hK hP hD hS hA (fun _ => rfl) (by decide) (by decide) (Nat.le_of_ble_eq_true rfl) (Nat.le_of_ble_eq_true rfl) (Nat.le_of_ble_eq_true rfl) dX8_init_31 (fun q4 cA H hK2 hP hD hS => ?_)
  obtain rfl : G 1 = cA := cA_int hK2 (i := 1) (j := 6) rfl rfl
  clear hK2
  have hP : va_P D vwCl [(a_p0, .inr (8, [.ref q1, .ref q2, .ref q3, .null, .null, .int (Int32.ofInt (0 : Int)), .int (Int32.ofInt (0 : Int)), .int (Int32.ofInt (0 : Int)), .int (Int32.ofInt (0 : Int))])), (q1, .inl (G 1, 7, .inl (zA (fun _ => (0 : Int))))), (q2, .inl (G 1, 7, .inl (zA (fun _ => (0 : Int))))), (q3, .inl (G 1, 7, .inl (zA (fun _ => (0 : Int))))), (q4, .inl (G 1, 7, .inl (zA (fun _ => (0 : Int)))))] H := hP
  have hD : va_D A [(a_p0, .inr (8, [.ref q1, .ref q2, .ref q3, .null, .null, .int (Int32.ofInt (0 : Int)), .int (Int32.ofInt (0 : Int)), .int (Int32.ofInt (0 : Int)), .int (Int32.ofInt (0 : Int))])), (q1, .inl (G 1, 7, .inl (zA (fun _ => (0 : Int))))), (q2, .inl (G 1, 7, .inl (zA (fun _ => (0 : Int))))), (q3, .inl (G 1, 7, .inl (zA (fun _ => (0 : Int))))), (q4, .inl (G 1, 7, .inl (zA (fun _ => (0 : Int)))))] := hD
  refine va_putF (D := D) (ci := 8) (v := .ref q4) (ty := .array .int) (C := RX8) (T := TX8) (N := 9) hx hb hts icX8_init_X8 tyX8 tyX8_ok nmX8 hown hK hP hD hS 0 rfl rfl 3 (by decide) (hts _ mcX8_init_8) (fun _ h9 => h9) rfl hin rfl (by decide +kernel) rfl rfl (Nat.le_of_ble_eq_true rfl) dX8_init_33 (fun H locs hP hD hS => ?_)
  have hP : va_P D vwCl [(a_p0, .inr (8, [.ref q1, .ref q2, .ref q3, .ref q4, .null, .int (Int32.ofInt (0 : Int)), .int (Int32.ofInt (0 : Int)), .int (Int32.ofInt (0 : Int)), .int (Int32.ofInt (0 : Int))])), (q1, .inl (G 1, 7, .inl (zA (fun _ => (0 : Int))))), (q2, .inl (G 1, 7, .inl (zA (fun _ => (0 : Int))))), (q3, .inl (G 1, 7, .inl (zA (fun _ => (0 : Int))))), (q4, .inl (G 1, 7, .inl (zA (fun _ => (0 : Int)))))] H := hP
  have hD : va_D A [(a_p0, .inr (8, [.ref q1, .ref q2, .ref q3, .ref q4, .null, .int (Int32.ofInt (0 : Int)), .int (Int32.ofInt (0 : Int)), .int (Int32.ofInt (0 : Int)), .int (Int32.ofInt (0 : Int))])), (q1, .inl (G 1, 7, .inl (zA (fun _ => (0 : Int))))), (q2, .inl (G 1, 7, .inl (zA (fun _ => (0 : Int))))), (q3, .inl (G 1, 7, .inl (zA (fun _ => (0 : Int))))), (q4, .inl (G 1, 7, .inl (zA (fun _ => (0 : Int)))))] := hD
  refine lv_aload_n hx hb dX8_init_36 rfl (lv_at hl 0 rfl) ?_
  refine lv_bipush (v := (Int32.ofInt (6 : Int))) hx hb dX8_init_37 (by decide) ?_
  refine va_newa (atype := .int) (ty := .int) (N' := 6) (a0 := (6, .inl (zA (fun _ => (0 : Int))))) hx hb (hts _ mcX8_init_3) rfl hK hP hD hS hA (fun _ => rfl) (by decide) (by decide) (Nat.le_of_ble_eq_true rfl) (Nat.le_of_ble_eq_true rfl) (Nat.le_of_ble_eq_true rfl) dX8_init_39 (fun q5 cA H hK2 hP hD hS => ?_)
  obtain rfl : G 1 = cA := cA_int hK2 (i := 1) (j := 6) rfl rfl
  clear hK2
  have hP : va_P D vwCl [(a_p0, .inr (8, [.ref q1, .ref q2, .ref q3, .ref q4, .null, .int (Int32.ofInt (0 : Int)), .int (Int32.ofInt (0 : Int)), .int (Int32.ofInt (0 : Int)), .int (Int32.ofInt (0 : Int))])), (q1, .inl (G 1, 7, .inl (zA (fun _ => (0 : Int))))), (q2, .inl (G 1, 7, .inl (zA (fun _ => (0 : Int))))), (q3, .inl (G 1, 7, .inl (zA (fun _ => (0 : Int))))), (q4, .inl (G 1, 7, .inl (zA (fun _ => (0 : Int))))), (q5, .inl (G 1, 6, .inl (zA (fun _ => (0 : Int)))))] H := hP
  have hD : va_D A [(a_p0, .inr (8, [.ref q1, .ref q2, .ref q3, .ref q4, .null, .int (Int32.ofInt (0 : Int)), .int (Int32.ofInt (0 : Int)), .int (Int32.ofInt (0 : Int)), .int (Int32.ofInt (0 : Int))])), (q1, .inl (G 1, 7, .inl (zA (fun _ => (0 : Int))))), (q2, .inl (G 1, 7, .inl (zA (fun _ => (0 : Int))))), (q3, .inl (G 1, 7, .inl (zA (fun _ => (0 : Int))))), (q4, .inl (G 1, 7, .inl (zA (fun _ => (0 : Int))))), (q5, .inl (G 1, 6, .inl (zA (fun _ => (0 : Int)))))] := hD
  refine va_putF (D := D) (ci := 8) (v := .ref q5) (ty := .array .int) (C := RX8) (T := TX8) (N := 9) hx hb hts icX8_init_X8 tyX8 tyX8_ok nmX8 hown hK hP hD hS 0 rfl rfl 4 (by decide) (hts _ mcX8_init_9) (fun _ h9 => h9) rfl hin rfl (by decide +kernel) rfl rfl (Nat.le_of_ble_eq_true rfl) dX8_init_41 (fun H locs hP hD hS => ?_)
  have hP : va_P D vwCl [(a_p0, .inr (8, [.ref q1, .ref q2, .ref q3, .ref q4, .ref q5, .int (Int32.ofInt (0 : Int)), .int (Int32.ofInt (0 : Int)), .int (Int32.ofInt (0 : Int)), .int (Int32.ofInt (0 : Int))])), (q1, .inl (G 1, 7, .inl (zA (fun _ => (0 : Int))))), (q2, .inl (G 1, 7, .inl (zA (fun _ => (0 : Int))))), (q3, .inl (G 1, 7, .inl (zA (fun _ => (0 : Int))))), (q4, .inl (G 1, 7, .inl (zA (fun _ => (0 : Int))))), (q5, .inl (G 1, 6, .inl (zA (fun _ => (0 : Int)))))] H := hP
  have hD : va_D A [(a_p0, .inr (8, [.ref q1, .ref q2, .ref q3, .ref q4, .ref q5, .int (Int32.ofInt (0 : Int)), .int (Int32.ofInt (0 : Int)), .int (Int32.ofInt (0 : Int)), .int (Int32.ofInt (0 : Int))])), (q1, .inl (G 1, 7, .inl (zA (fun _ => (0 : Int))))), (q2, .inl (G 1, 7, .inl (zA (fun _ => (0 : Int))))), (q3, .inl (G 1, 7, .inl (zA (fun _ => (0 : Int))))), (q4, .inl (G 1, 7, .inl (zA (fun _ => (0 : Int))))), (q5, .inl (G 1, 6, .inl (zA (fun _ => (0 : Int)))))] := hD
  refine lv_aload_n hx hb dX8_init_44 rfl (lv_at hl 0 rfl) ?_
  refine lv_iconst (v := (Int32.ofInt (0 : Int))) hx hb dX8_init_45 (by decide) ?_
  refine va_put (D := D) (ci := 8) (v := .int (Int32.ofInt (0 : Int))) (ty := .int) (C := RX8) (T := TX8) (N := 9) hx hb hts icX8_init_X8 tyX8 tyX8_ok nmX8 hown hK hP hD hS 0 rfl rfl 5 (by decide) (hts _ mcX8_init_10) (fun _ h9 => h9) rfl (by decide +kernel) rfl rfl (Nat.le_of_ble_eq_true rfl) dX8_init_46 (fun H locs hP hD hS => ?_)
  have hP : va_P D vwCl [(a_p0, .inr (8, [.ref q1, .ref q2, .ref q3, .ref q4, .ref q5, .int (Int32.ofInt (0 : Int)), .int (Int32.ofInt (0 : Int)), .int (Int32.ofInt (0 : Int)), .int (Int32.ofInt (0 : Int))])), (q1, .inl (G 1, 7, .inl (zA (fun _ => (0 : Int))))), (q2, .inl (G 1, 7, .inl (zA (fun _ => (0 : Int))))), (q3, .inl (G 1, 7, .inl (zA (fun _ => (0 : Int))))), (q4, .inl (G 1, 7, .inl (zA (fun _ => (0 : Int))))), (q5, .inl (G 1, 6, .inl (zA (fun _ => (0 : Int)))))] H := hP
  have hD : va_D A [(a_p0, .inr (8, [.ref q1, .ref q2, .ref q3, .ref q4, .ref q5, .int (Int32.ofInt (0 : Int)), .int (Int32.ofInt (0 : Int)), .int (Int32.ofInt (0 : Int)), .int (Int32.ofInt (0 : Int))])), (q1, .inl (G 1, 7, .inl (zA (fun _ => (0 : Int))))), (q2, .inl (G 1, 7, .inl (zA (fun _ => (0 : Int))))), (q3, .inl (G 1, 7, .inl (zA (fun _ => (0 : Int))))), (q4, .inl (G 1, 7, .inl (zA (fun _ => (0 : Int))))), (q5, .inl (G 1, 6, .inl (zA (fun _ => (0 : Int)))))] := hD
  refine lv_aload_n hx hb dX8_init_49 rfl (lv_at hl 0 rfl) ?_
  refine lv_iconst (v := (Int32.ofInt (0 : Int))) hx hb dX8_init_50 (by decide) ?_
  refine va_put (D := D) (ci := 8) (v := .int (Int32.ofInt (0 : Int))) (ty := .int) (C := RX8) (T := TX8) (N := 9) hx hb hts icX8_init_X8 tyX8 tyX8_ok nmX8 hown hK hP hD hS 0 rfl rfl 6 (by decide) (hts _ mcX8_init_11) (fun _ h9 => h9) rfl (by decide +kernel) rfl rfl (Nat.le_of_ble_eq_true rfl) dX8_init_51 (fun H locs hP hD hS => ?_)
  have hP : va_P D vwCl [(a_p0, .inr (8, [.ref q1, .ref q2, .ref q3, .ref q4, .ref q5, .int (Int32.ofInt (0 : Int)), .int (Int32.ofInt (0 : Int)), .int (Int32.ofInt (0 : Int)), .int (Int32.ofInt (0 : Int))])), (q1, .inl (G 1, 7, .inl (zA (fun _ => (0 : Int))))), (q2, .inl (G 1, 7, .inl (zA (fun _ => (0 : Int))))), (q3, .inl (G 1, 7, .inl (zA (fun _ => (0 : Int))))), (q4, .inl (G 1, 7, .inl (zA (fun _ => (0 : Int))))), (q5, .inl (G 1, 6, .inl (zA (fun _ => (0 : Int)))))] H := hP
  have hD : va_D A [(a_p0, .inr (8, [.ref q1, .ref q2, .ref q3, .ref q4, .ref q5, .int (Int32.ofInt (0 : Int)), .int (Int32.ofInt (0 : Int)), .int (Int32.ofInt (0 : Int)), .int (Int32.ofInt (0 : Int))])), (q1, .inl (G 1, 7, .inl (zA (fun _ => (0 : Int))))), (q2, .inl (G 1, 7, .inl (zA (fun _ => (0 : Int))))), (q3, .inl (G 1, 7, .inl (zA (fun _ => (0 : Int))))), (q4, .inl (G 1, 7, .inl (zA (fun _ => (0 : Int))))), (q5, .inl (G 1, 6, .inl (zA (fun _ => (0 : Int)))))] := hD
  refine lv_aload_n hx hb dX8_init_54 rfl (lv_at hl 0 rfl) ?_
  refine lv_iconst (v := (Int32.ofInt (0 : Int))) hx hb dX8_init_55 (by decide) ?_
  refine va_put (D := D) (ci := 8) (v := .int (Int32.ofInt (0 : Int))) (ty := .int) (C := RX8) (T := TX8) (N := 9) hx hb hts icX8_init_X8 tyX8 tyX8_ok nmX8 hown hK hP hD hS 0 rfl rfl 7 (by decide) (hts _ mcX8_init_12) (fun _ h9 => h9) rfl (by decide +kernel) rfl rfl (Nat.le_of_ble_eq_true rfl) dX8_init_56 (fun H locs hP hD hS => ?_)
  have hP : va_P D vwCl [(a_p0, .inr (8, [.ref q1, .ref q2, .ref q3, .ref q4, .ref q5, .int (Int32.ofInt (0 : Int)), .int (Int32.ofInt (0 : Int)), .int (Int32.ofInt (0 : Int)), .int (Int32.ofInt (0 : Int))])), (q1, .inl (G 1, 7, .inl (zA (fun _ => (0 : Int))))), (q2, .inl (G 1, 7, .inl (zA (fun _ => (0 : Int))))), (q3, .inl (G 1, 7, .inl (zA (fun _ => (0 : Int))))), (q4, .inl (G 1, 7, .inl (zA (fun _ => (0 : Int))))), (q5, .inl (G 1, 6, .inl (zA (fun _ => (0 : Int)))))] H := hP
  have hD : va_D A [(a_p0, .inr (8, [.ref q1, .ref q2, .ref q3, .ref q4, .ref q5, .int (Int32.ofInt (0 : Int)), .int (Int32.ofInt (0 : Int)), .int (Int32.ofInt (0 : Int)), .int (Int32.ofInt (0 : Int))])), (q1, .inl (G 1, 7, .inl (zA (fun _ => (0 : Int))))), (q2, .inl (G 1, 7, .inl (zA (fun _ => (0 : Int))))), (q3, .inl (G 1, 7, .inl (zA (fun _ => (0 : Int))))), (q4, .inl (G 1, 7, .inl (zA (fun _ => (0 : Int))))), (q5, .inl (G 1, 6, .inl (zA (fun _ => (0 : Int)))))] := hD
  refine lv_aload_n hx hb dX8_init_59 rfl (lv_at hl 0 rfl) ?_
  refine lv_iconst (v := (Int32.ofInt (0 : Int))) hx hb dX8_init_60 (by decide) ?_
  refine va_put (D := D) (ci := 8) (v := .int (Int32.ofInt (0 : Int))) (ty := .int) (C := RX8) (T := TX8) (N := 9) hx hb hts icX8_init_X8 tyX8 tyX8_ok nmX8 hown hK hP hD hS 0 rfl rfl 8 (by decide) (hts _ mcX8_init_13) (fun _ h9 => h9) rfl (by decide +kernel) rfl rfl (Nat.le_of_ble_eq_true rfl) dX8_init_61 (fun H locs hP hD hS => ?_)
  have hP : va_P D vwCl [(a_p0, .inr (8, [.ref q1, .ref q2, .ref q3, .ref q4, .ref q5, .int (Int32.ofInt (0 : Int)), .int (Int32.ofInt (0 : Int)), .int (Int32.ofInt (0 : Int)), .int (Int32.ofInt (0 : Int))])), (q1, .inl (G 1, 7, .inl (zA (fun _ => (0 : Int))))), (q2, .inl (G 1, 7, .inl (zA (fun _ => (0 : Int))))), (q3, .inl (G 1, 7, .inl (zA (fun _ => (0 : Int))))), (q4, .inl (G 1, 7, .inl (zA (fun _ => (0 : Int))))), (q5, .inl (G 1, 6, .inl (zA (fun _ => (0 : Int)))))] H := hP
  have hD : va_D A [(a_p0, .inr (8, [.ref q1, .ref q2, .ref q3, .ref q4, .ref q5, .int (Int32.ofInt (0 : Int)), .int (Int32.ofInt (0 : Int)), .int (Int32.ofInt (0 : Int)), .int (Int32.ofInt (0 : Int))])), (q1, .inl (G 1, 7, .inl (zA (fun _ => (0 : Int))))), (q2, .inl (G 1, 7, .inl (zA (fun _ => (0 : Int))))), (q3, .inl (G 1, 7, .inl (zA (fun _ => (0 : Int))))), (q4, .inl (G 1, 7, .inl (zA (fun _ => (0 : Int))))), (q5, .inl (G 1, 6, .inl (zA (fun _ => (0 : Int)))))] := hD
  refine lv_aload_n hx hb dX8_init_64 rfl (lv_at hl 0 rfl) ?_
  refine va_get (D := D) (ci := 8) (v := .ref q3) (C := RX8) (T := TX8) (N := 9) hx hb hts icX8_init_X8 hown hK hP 0 rfl rfl 2 (by decide) (hts _ mcX8_init_7) (fun _ h9 => h9) rfl dX8_init_65 ?_
  refine lv_iconst (v := (Int32.ofInt (1 : Int))) hx hb dX8_init_68 (by decide) ?_
  refine gsV (ws' := [(a_p0, .inr (8, [.ref q1, .ref q2, .ref q3, .ref q4, .ref q5, .int (Int32.ofInt (0 : Int)), .int (Int32.ofInt (0 : Int)), .int (Int32.ofInt (0 : Int)), .int (Int32.ofInt (0 : Int))])), (q1, .inl (G 1, 7, .inl (zA (fun _ => (0 : Int))))), (q2, .inl (G 1, 7, .inl (zA (fun _ => (0 : Int))))), (q3, .inl (G 1, 7, .inl (zA u_fill0_0))), (q4, .inl (G 1, 7, .inl (zA (fun _ => (0 : Int))))), (q5, .inl (G 1, 6, .inl (zA (fun _ => (0 : Int)))))]) (va_runS (As := [.ref q3, .int (Int32.ofInt (1 : Int))]) (rest := []) ⟨hx, hb, hml, hown, hts⟩ (c_J7_fill_53178 (l := l) (D := D) (G := G) (sz := H.size) (a_p0 := q3) (n_p0 := 7) (v_p0 := (fun _ => (0 : Int))) (x1 := (1 : Int)) (o_v_p0 := u_fill0_0) (hf := h_fill0)) (va_cwS 2 hts gX8_init_J7_fill_53178 rfl rfl rfl (by decide +kernel) ⟨(Nat.le_of_ble_eq_true rfl), (Nat.le_of_ble_eq_true rfl)⟩) (preG_S (hP.sub [3] rfl) (hD.sub [3] rfl rfl) hK) rfl rfl hl.1 rfl (lv_room (Nat.le_of_ble_eq_true rfl)) dX8_init_69 ⟨(Nat.le_of_ble_eq_true rfl), (Nat.le_of_ble_eq_true rfl)⟩) hP hD hS hA [3] rfl rfl rfl (fun H locs hP hD hS => ?_)
  rw [hQ]
  exact W.vret hx hb hr (fun t ht hW => ⟨⟨(), rfl, trivial, q1, q2, q3, q4, q5, by rw [ht]; exact hP, va_K.moved hW.alike hK, hD⟩, hS.F ht⟩) hS.2.2 dX8_init_72

abbrev rm_X9_init : Room := { frames := 1, cells := 1, slots := 320, locals := 12 }
theorem mcX9_init_0 : Cond.methodLink RX9 3 objectInit ∈ wsX9_init := by decide +kernel
theorem mcX9_init_1 : Cond.instanceMethod objectInit ∈ wsX9_init := by decide +kernel
theorem mcX9_init_2 : Cond.code objectInit ⟨#[0xb1]⟩ 1 none ∈ wsX9_init := by decide +kernel
theorem mcX9_init_3 : Cond.arrayClass .byte ∈ wsX9_init := by decide +kernel
theorem icX9_init_X9 : ∀ w ∈ wsX90, w ∈ wsX9_init := by decide +kernel
theorem mcX9_init_5 : Cond.fieldLink RX9 9 "LadleKings$Tape" "bytes" "[B" ∈ wsX9_init := by decide +kernel
theorem mcX9_init_6 : Cond.fieldLink RX9 15 "LadleKings$Tape" "length" "I" ∈ wsX9_init := by decide +kernel
theorem mcX9_init_7 : Cond.fieldLink RX9 19 "LadleKings$Tape" "at" "I" ∈ wsX9_init := by decide +kernel
theorem mcX9_init_8 : Cond.fieldLink RX9 22 "LadleKings$Tape" "token" "I" ∈ wsX9_init := by decide +kernel
theorem mcX9_init_9 : Cond.fieldLink RX9 25 "LadleKings$Tape" "start" "I" ∈ wsX9_init := by decide +kernel
theorem mcX9_init_10 : Cond.fieldLink RX9 28 "LadleKings$Tape" "value" "I" ∈ wsX9_init := by decide +kernel
def pc_X9_init (D : va_G) (G : Nat → ClassId) (sz : Nat) (a_p0 : Nat) : Array Value → State → Prop := va_Pc [.ref a_p0] (fun U => U.heap.size = sz ∧ va_P D vwCl [(a_p0, .inr (9, [.null, .int (Int32.ofInt (0 : Int)), .int (Int32.ofInt (0 : Int)), .int (Int32.ofInt (0 : Int)), .int (Int32.ofInt (0 : Int)), .int (Int32.ofInt (0 : Int))]))] U.heap ∧ va_K D vwCl (tyG G) U ∧ va_D (fun _ => True) [(a_p0, .inr (9, [.null, .int (Int32.ofInt (0 : Int)), .int (Int32.ofInt (0 : Int)), .int (Int32.ofInt (0 : Int)), .int (Int32.ofInt (0 : Int)), .int (Int32.ofInt (0 : Int))]))])
set_option maxHeartbeats 8000000 in
set_option maxRecDepth 100000 in
theorem c_X9_init (l : Launch) (D : va_G) (G : Nat → ClassId) (sz : Nat) (a_p0 : Nat) : Met l yX9_init wsX9_init rm_X9_init (pc_X9_init D G sz a_p0) (va_Qv (fun (_ : Unit) => True) (fun _ t => ∃ q1 : Nat, va_P D vwCl [(a_p0, .inr (9, [.ref q1, .int (Int32.ofInt (0 : Int)), .int (Int32.ofInt (0 : Int)), .int (Int32.ofInt (0 : Int)), .int (Int32.ofInt (0 : Int)), .int (Int32.ofInt (0 : Int))])), (q1, .inl (G 0, 320, .inl (zA (fun _ => (0 : Int)))))] t.heap ∧ va_K D vwCl (tyG G) t ∧ va_D (va_A [(a_p0, .inr (9, [.null, .int (Int32.ofInt (0 : Int)), .int (Int32.ofInt (0 : Int)), .int (Int32.ofInt (0 : Int)), .int (Int32.ofInt (0 : Int)), .int (Int32.ofInt (0 : Int))]))] sz) [(a_p0, .inr (9, [.ref q1, .int (Int32.ofInt (0 : Int)), .int (Int32.ofInt (0 : Int)), .int (Int32.ofInt (0 : Int)), .int (Int32.ofInt (0 : Int)), .int (Int32.ofInt (0 : Int))])), (q1, .inl (G 0, 320, .inl (zA (fun _ => (0 : Int)))))]) (va_A [(a_p0, .inr (9, [.null, .int (Int32.ofInt (0 : Int)), .int (Int32.ofInt (0 : Int)), .int (Int32.ofInt (0 : Int)), .int (Int32.ofInt (0 : Int)), .int (Int32.ofInt (0 : Int))]))] sz)) 1 320 (va_A [(a_p0, .inr (9, [.null, .int (Int32.ofInt (0 : Int)), .int (Int32.ofInt (0 : Int)), .int (Int32.ofInt (0 : Int)), .int (Int32.ofInt (0 : Int)), .int (Int32.ofInt (0 : Int))]))] sz) := by
  refine Met.ofW (cc := cX9_init) (maxL := 1) (ret := none) (by decide) rfl ?_
  intro p e s m args below meth c s₁ B hml hv
  obtain ⟨rfl, hsz, hP, hK, hD0⟩ := hv
  have hx := B.exec
  have hb := B.bytes
  have hr := B.returns
  have hts := atoms_spec (ws := wsX9_init) B.pre
  have hown : s.vm.findClass RX9 = some m.cls := findClass_of_methodNamed B.named
  have hlocks := B.notSynchronized
  have hin : meth.name = "<init>" := (name_of_methodNamed B.named B.method).1
  subst hsz
  have hD := hD0.self (sz := s.heap.size)
  generalize hAe : va_A [(a_p0, .inr (9, [.null, .int (Int32.ofInt (0 : Int)), .int (Int32.ofInt (0 : Int)), .int (Int32.ofInt (0 : Int)), .int (Int32.ofInt (0 : Int)), .int (Int32.ofInt (0 : Int))]))] s.heap.size = A at hD ⊢
  have hA : ∀ q : Nat, s.heap.size ≤ q → A q := fun q h => by rw [← hAe]; exact Or.inr h
  clear hAe hD0
  have hS : va_S A s.heap s.heap [] := va_S.rf
  have hl := lv_entry ([.ref a_p0]) (n := 1) (Nat.le_of_ble_eq_true rfl)
  rw [lg_entry_eq]
  generalize (lg_sl ([.ref a_p0]) ++ List.replicate (1 - (lg_sl ([.ref a_p0])).length) Slot.unset).toArray = ls at hl ⊢
  have hl : lv_has ls 1 [(0, .ref a_p0)] := hl
  refine W_nameQ (fun Q hQ => ?_)
  refine lv_aload_n hx hb dX9_init_0 rfl (lv_at hl 0 rfl) ?_
  refine W.objInit hx hb hown (hts _ mcX9_init_0) (hts _ mcX9_init_1) (hts _ mcX9_init_2) rfl (by rw [hml]; exact hl.1) rfl dX9_init_1 (Nat.le_of_ble_eq_true rfl) (Nat.le_of_ble_eq_true rfl) ?_
  refine W.eq (g2 := F0 m 4 ls []) rfl ?_
  refine lv_aload_n hx hb dX9_init_4 rfl (lv_at hl 0 rfl) ?_
  refine lv_sipush (v := (Int32.ofInt (320 : Int))) hx hb dX9_init_5 (by decide) ?_
  refine va_newa (atype := .byte) (ty := .byte) (N' := 320) (a0 := (320, .inl (zA (fun _ => (0 : Int))))) hx hb (hts _ mcX9_init_3) rfl hK hP hD hS hA (fun _ => rfl) (by decide) (by decide) (Nat.le_of_ble_eq_true rfl) (Nat.le_of_ble_eq_true rfl) (Nat.le_of_ble_eq_true rfl) dX9_init_8 (fun q1 cA H hK2 hP hD hS => ?_)
  obtain rfl : G 0 = cA := cA_byte hK2 (i := 0) (j := 6) rfl rfl
  clear hK2
  have hP : va_P D vwCl [(a_p0, .inr (9, [.null, .int (Int32.ofInt (0 : Int)), .int (Int32.ofInt (0 : Int)), .int (Int32.ofInt (0 : Int)), .int (Int32.ofInt (0 : Int)), .int (Int32.ofInt (0 : Int))])), (q1, .inl (G 0, 320, .inl (zA (fun _ => (0 : Int)))))] H := hP
  have hD : va_D A [(a_p0, .inr (9, [.null, .int (Int32.ofInt (0 : Int)), .int (Int32.ofInt (0 : Int)), .int (Int32.ofInt (0 : Int)), .int (Int32.ofInt (0 : Int)), .int (Int32.ofInt (0 : Int))])), (q1, .inl (G 0, 320, .inl (zA (fun _ => (0 : Int)))))] := hD
  refine va_putF (D := D) (ci := 9) (v := .ref q1) (ty := .array .byte) (C := RX9) (T := TX9) (N := 6) hx hb hts icX9_init_X9 tyX9 tyX9_ok nmX9 hown hK hP hD hS 0 rfl rfl 0 (by decide) (hts _ mcX9_init_5) (fun _ h9 => h9) rfl hin rfl (by decide +kernel) rfl rfl (Nat.le_of_ble_eq_true rfl) dX9_init_10 (fun H locs hP hD hS => ?_)
  have hP : va_P D vwCl [(a_p0, .inr (9, [.ref q1, .int (Int32.ofInt (0 : Int)), .int (Int32.ofInt (0 : Int)), .int (Int32.ofInt (0 : Int)), .int (Int32.ofInt (0 : Int)), .int (Int32.ofInt (0 : Int))])), (q1, .inl (G 0, 320, .inl (zA (fun _ => (0 : Int)))))] H := hP
  have hD : va_D A [(a_p0, .inr (9, [.ref q1, .int (Int32.ofInt (0 : Int)), .int (Int32.ofInt (0 : Int)), .int (Int32.ofInt (0 : Int)), .int (Int32.ofInt (0 : Int)), .int (Int32.ofInt (0 : Int))])), (q1, .inl (G 0, 320, .inl (zA (fun _ => (0 : Int)))))] := hD
  refine lv_aload_n hx hb dX9_init_13 rfl (lv_at hl 0 rfl) ?_
  refine lv_iconst (v := (Int32.ofInt (0 : Int))) hx hb dX9_init_14 (by decide) ?_
  refine va_put (D := D) (ci := 9) (v := .int (Int32.ofInt (0 : Int))) (ty := .int) (C := RX9) (T := TX9) (N := 6) hx hb hts icX9_init_X9 tyX9 tyX9_ok nmX9 hown hK hP hD hS 0 rfl rfl 1 (by decide) (hts _ mcX9_init_6) (fun _ h9 => h9) rfl (by decide +kernel) rfl rfl (Nat.le_of_ble_eq_true rfl) dX9_init_15 (fun H locs hP hD hS => ?_)
  have hP : va_P D vwCl [(a_p0, .inr (9, [.ref q1, .int (Int32.ofInt (0 : Int)), .int (Int32.ofInt (0 : Int)), .int (Int32.ofInt (0 : Int)), .int (Int32.ofInt (0 : Int)), .int (Int32.ofInt (0 : Int))])), (q1, .inl (G 0, 320, .inl (zA (fun _ => (0 : Int)))))] H := hP
  have hD : va_D A [(a_p0, .inr (9, [.ref q1, .int (Int32.ofInt (0 : Int)), .int (Int32.ofInt (0 : Int)), .int (Int32.ofInt (0 : Int)), .int (Int32.ofInt (0 : Int)), .int (Int32.ofInt (0 : Int))])), (q1, .inl (G 0, 320, .inl (zA (fun _ => (0 : Int)))))] := hD
  refine lv_aload_n hx hb dX9_init_18 rfl (lv_at hl 0 rfl) ?_
  refine lv_iconst (v := (Int32.ofInt (0 : Int))) hx hb dX9_init_19 (by decide) ?_
  refine va_put (D := D) (ci := 9) (v := .int (Int32.ofInt (0 : Int))) (ty := .int) (C := RX9) (T := TX9) (N := 6) hx hb hts icX9_init_X9 tyX9 tyX9_ok nmX9 hown hK hP hD hS 0 rfl rfl 2 (by decide) (hts _ mcX9_init_7) (fun _ h9 => h9) rfl (by decide +kernel) rfl rfl (Nat.le_of_ble_eq_true rfl) dX9_init_20 (fun H locs hP hD hS => ?_)
  have hP : va_P D vwCl [(a_p0, .inr (9, [.ref q1, .int (Int32.ofInt (0 : Int)), .int (Int32.ofInt (0 : Int)), .int (Int32.ofInt (0 : Int)), .int (Int32.ofInt (0 : Int)), .int (Int32.ofInt (0 : Int))])), (q1, .inl (G 0, 320, .inl (zA (fun _ => (0 : Int)))))] H := hP
  have hD : va_D A [(a_p0, .inr (9, [.ref q1, .int (Int32.ofInt (0 : Int)), .int (Int32.ofInt (0 : Int)), .int (Int32.ofInt (0 : Int)), .int (Int32.ofInt (0 : Int)), .int (Int32.ofInt (0 : Int))])), (q1, .inl (G 0, 320, .inl (zA (fun _ => (0 : Int)))))] := hD
  refine lv_aload_n hx hb dX9_init_23 rfl (lv_at hl 0 rfl) ?_
  refine lv_iconst (v := (Int32.ofInt (0 : Int))) hx hb dX9_init_24 (by decide) ?_
  refine va_put (D := D) (ci := 9) (v := .int (Int32.ofInt (0 : Int))) (ty := .int) (C := RX9) (T := TX9) (N := 6) hx hb hts icX9_init_X9 tyX9 tyX9_ok nmX9 hown hK hP hD hS 0 rfl rfl 3 (by decide) (hts _ mcX9_init_8) (fun _ h9 => h9) rfl (by decide +kernel) rfl rfl (Nat.le_of_ble_eq_true rfl) dX9_init_25 (fun H locs hP hD hS => ?_)
  have hP : va_P D vwCl [(a_p0, .inr (9, [.ref q1, .int (Int32.ofInt (0 : Int)), .int (Int32.ofInt (0 : Int)), .int (Int32.ofInt (0 : Int)), .int (Int32.ofInt (0 : Int)), .int (Int32.ofInt (0 : Int))])), (q1, .inl (G 0, 320, .inl (zA (fun _ => (0 : Int)))))] H := hP
  have hD : va_D A [(a_p0, .inr (9, [.ref q1, .int (Int32.ofInt (0 : Int)), .int (Int32.ofInt (0 : Int)), .int (Int32.ofInt (0 : Int)), .int (Int32.ofInt (0 : Int)), .int (Int32.ofInt (0 : Int))])), (q1, .inl (G 0, 320, .inl (zA (fun _ => (0 : Int)))))] := hD
  refine lv_aload_n hx hb dX9_init_28 rfl (lv_at hl 0 rfl) ?_
  refine lv_iconst (v := (Int32.ofInt (0 : Int))) hx hb dX9_init_29 (by decide) ?_
  refine va_put (D := D) (ci := 9) (v := .int (Int32.ofInt (0 : Int))) (ty := .int) (C := RX9) (T := TX9) (N := 6) hx hb hts icX9_init_X9 tyX9 tyX9_ok nmX9 hown hK hP hD hS 0 rfl rfl 4 (by decide) (hts _ mcX9_init_9) (fun _ h9 => h9) rfl (by decide +kernel) rfl rfl (Nat.le_of_ble_eq_true rfl) dX9_init_30 (fun H locs hP hD hS => ?_)
  have hP : va_P D vwCl [(a_p0, .inr (9, [.ref q1, .int (Int32.ofInt (0 : Int)), .int (Int32.ofInt (0 : Int)), .int (Int32.ofInt (0 : Int)), .int (Int32.ofInt (0 : Int)), .int (Int32.ofInt (0 : Int))])), (q1, .inl (G 0, 320, .inl (zA (fun _ => (0 : Int)))))] H := hP
  have hD : va_D A [(a_p0, .inr (9, [.ref q1, .int (Int32.ofInt (0 : Int)), .int (Int32.ofInt (0 : Int)), .int (Int32.ofInt (0 : Int)), .int (Int32.ofInt (0 : Int)), .int (Int32.ofInt (0 : Int))])), (q1, .inl (G 0, 320, .inl (zA (fun _ => (0 : Int)))))] := hD
  refine lv_aload_n hx hb dX9_init_33 rfl (lv_at hl 0 rfl) ?_
  refine lv_iconst (v := (Int32.ofInt (0 : Int))) hx hb dX9_init_34 (by decide) ?_
  refine va_put (D := D) (ci := 9) (v := .int (Int32.ofInt (0 : Int))) (ty := .int) (C := RX9) (T := TX9) (N := 6) hx hb hts icX9_init_X9 tyX9 tyX9_ok nmX9 hown hK hP hD hS 0 rfl rfl 5 (by decide) (hts _ mcX9_init_10) (fun _ h9 => h9) rfl (by decide +kernel) rfl rfl (Nat.le_of_ble_eq_true rfl) dX9_init_35 (fun H locs hP hD hS => ?_)
  have hP : va_P D vwCl [(a_p0, .inr (9, [.ref q1, .int (Int32.ofInt (0 : Int)), .int (Int32.ofInt (0 : Int)), .int (Int32.ofInt (0 : Int)), .int (Int32.ofInt (0 : Int)), .int (Int32.ofInt (0 : Int))])), (q1, .inl (G 0, 320, .inl (zA (fun _ => (0 : Int)))))] H := hP
  have hD : va_D A [(a_p0, .inr (9, [.ref q1, .int (Int32.ofInt (0 : Int)), .int (Int32.ofInt (0 : Int)), .int (Int32.ofInt (0 : Int)), .int (Int32.ofInt (0 : Int)), .int (Int32.ofInt (0 : Int))])), (q1, .inl (G 0, 320, .inl (zA (fun _ => (0 : Int)))))] := hD
  rw [hQ]
  exact W.vret hx hb hr (fun t ht hW => ⟨⟨(), rfl, trivial, q1, by rw [ht]; exact hP, va_K.moved hW.alike hK, hD⟩, hS.F ht⟩) hS.2.2 dX9_init_38

abbrev rm_X7_init : Room := { frames := 1, cells := 1, slots := 40, locals := 12 }
theorem mcX7_init_0 : Cond.methodLink RX7 3 objectInit ∈ wsX7_init := by decide +kernel
theorem mcX7_init_1 : Cond.instanceMethod objectInit ∈ wsX7_init := by decide +kernel
theorem mcX7_init_2 : Cond.code objectInit ⟨#[0xb1]⟩ 1 none ∈ wsX7_init := by decide +kernel
theorem icX7_init_X7 : ∀ w ∈ wsX70, w ∈ wsX7_init := by decide +kernel
theorem mcX7_init_4 : Cond.fieldLink RX7 9 "LadleKings$Sheet" "lane" "I" ∈ wsX7_init := by decide +kernel
theorem mcX7_init_5 : Cond.fieldLink RX7 15 "LadleKings$Sheet" "size" "I" ∈ wsX7_init := by decide +kernel
theorem mcX7_init_6 : Cond.arrayClass .int ∈ wsX7_init := by decide +kernel
theorem mcX7_init_7 : Cond.fieldLink RX7 18 "LadleKings$Sheet" "cells" "[I" ∈ wsX7_init := by decide +kernel
def pc_X7_init (D : va_G) (G : Nat → ClassId) (sz : Nat) (a_p0 : Nat) : Array Value → State → Prop := va_Pc [.ref a_p0] (fun U => U.heap.size = sz ∧ va_P D vwCl [(a_p0, .inr (7, [.int (Int32.ofInt (0 : Int)), .int (Int32.ofInt (0 : Int)), .null]))] U.heap ∧ va_K D vwCl (tyG G) U ∧ va_D (fun _ => True) [(a_p0, .inr (7, [.int (Int32.ofInt (0 : Int)), .int (Int32.ofInt (0 : Int)), .null]))])
set_option maxHeartbeats 8000000 in
set_option maxRecDepth 100000 in
theorem c_X7_init (l : Launch) (D : va_G) (G : Nat → ClassId) (sz : Nat) (a_p0 : Nat) : Met l yX7_init wsX7_init rm_X7_init (pc_X7_init D G sz a_p0) (va_Qv (fun (_ : Unit) => True) (fun _ t => ∃ q1 : Nat, va_P D vwCl [(a_p0, .inr (7, [.int (Int32.ofInt (-4 : Int)), .int (Int32.ofInt (0 : Int)), .ref q1])), (q1, .inl (G 1, 40, .inl (zA (fun _ => (0 : Int)))))] t.heap ∧ va_K D vwCl (tyG G) t ∧ va_D (va_A [(a_p0, .inr (7, [.int (Int32.ofInt (0 : Int)), .int (Int32.ofInt (0 : Int)), .null]))] sz) [(a_p0, .inr (7, [.int (Int32.ofInt (-4 : Int)), .int (Int32.ofInt (0 : Int)), .ref q1])), (q1, .inl (G 1, 40, .inl (zA (fun _ => (0 : Int)))))]) (va_A [(a_p0, .inr (7, [.int (Int32.ofInt (0 : Int)), .int (Int32.ofInt (0 : Int)), .null]))] sz)) 1 40 (va_A [(a_p0, .inr (7, [.int (Int32.ofInt (0 : Int)), .int (Int32.ofInt (0 : Int)), .null]))] sz) := by
  refine Met.ofW (cc := cX7_init) (maxL := 1) (ret := none) (by decide) rfl ?_
  intro p e s m args below meth c s₁ B hml hv
  obtain ⟨rfl, hsz, hP, hK, hD0⟩ := hv
  have hx := B.exec
  have hb := B.bytes
  have hr := B.returns
  have hts := atoms_spec (ws := wsX7_init) B.pre
  have hown : s.vm.findClass RX7 = some m.cls := findClass_of_methodNamed B.named
  have hlocks := B.notSynchronized
  have hin : meth.name = "<init>" := (name_of_methodNamed B.named B.method).1
  subst hsz
  have hD := hD0.self (sz := s.heap.size)
  generalize hAe : va_A [(a_p0, .inr (7, [.int (Int32.ofInt (0 : Int)), .int (Int32.ofInt (0 : Int)), .null]))] s.heap.size = A at hD ⊢
  have hA : ∀ q : Nat, s.heap.size ≤ q → A q := fun q h => by rw [← hAe]; exact Or.inr h
  clear hAe hD0
  have hS : va_S A s.heap s.heap [] := va_S.rf
  have hl := lv_entry ([.ref a_p0]) (n := 1) (Nat.le_of_ble_eq_true rfl)
  rw [lg_entry_eq]
  generalize (lg_sl ([.ref a_p0]) ++ List.replicate (1 - (lg_sl ([.ref a_p0])).length) Slot.unset).toArray = ls at hl ⊢
  have hl : lv_has ls 1 [(0, .ref a_p0)] := hl
  refine W_nameQ (fun Q hQ => ?_)
  refine lv_aload_n hx hb dX7_init_0 rfl (lv_at hl 0 rfl) ?_
  refine W.objInit hx hb hown (hts _ mcX7_init_0) (hts _ mcX7_init_1) (hts _ mcX7_init_2) rfl (by rw [hml]; exact hl.1) rfl dX7_init_1 (Nat.le_of_ble_eq_true rfl) (Nat.le_of_ble_eq_true rfl) ?_
  refine W.eq (g2 := F0 m 4 ls []) rfl ?_
  refine lv_aload_n hx hb dX7_init_4 rfl (lv_at hl 0 rfl) ?_
  refine lv_bipush (v := (Int32.ofInt (-4 : Int))) hx hb dX7_init_5 (by decide) ?_
  refine va_put (D := D) (ci := 7) (v := .int (Int32.ofInt (-4 : Int))) (ty := .int) (C := RX7) (T := TX7) (N := 3) hx hb hts icX7_init_X7 tyX7 tyX7_ok nmX7 hown hK hP hD hS 0 rfl rfl 0 (by decide) (hts _ mcX7_init_4) (fun _ h9 => h9) rfl (by decide +kernel) rfl rfl (Nat.le_of_ble_eq_true rfl) dX7_init_7 (fun H locs hP hD hS => ?_)
  have hP : va_P D vwCl [(a_p0, .inr (7, [.int (Int32.ofInt (-4 : Int)), .int (Int32.ofInt (0 : Int)), .null]))] H := hP
  have hD : va_D A [(a_p0, .inr (7, [.int (Int32.ofInt (-4 : Int)), .int (Int32.ofInt (0 : Int)), .null]))] := hD
  refine lv_aload_n hx hb dX7_init_10 rfl (lv_at hl 0 rfl) ?_
  refine lv_iconst (v := (Int32.ofInt (0 : Int))) hx hb dX7_init_11 (by decide) ?_
  refine va_put (D := D) (ci := 7) (v := .int (Int32.ofInt (0 : Int))) (ty := .int) (C := RX7) (T := TX7) (N := 3) hx hb hts icX7_init_X7 tyX7 tyX7_ok nmX7 hown hK hP hD hS 0 rfl rfl 1 (by decide) (hts _ mcX7_init_5) (fun _ h9 => h9) rfl (by decide +kernel) rfl rfl (Nat.le_of_ble_eq_true rfl) dX7_init_12 (fun H locs hP hD hS => ?_)
  have hP : va_P D vwCl [(a_p0, .inr (7, [.int (Int32.ofInt (-4 : Int)), .int (Int32.ofInt (0 : Int)), .null]))] H := hP
  have hD : va_D A [(a_p0, .inr (7, [.int (Int32.ofInt (-4 : Int)), .int (Int32.ofInt (0 : Int)), .null]))] := hD
  refine lv_aload_n hx hb dX7_init_15 rfl (lv_at hl 0 rfl) ?_
  refine lv_bipush (v := (Int32.ofInt (40 : Int))) hx hb dX7_init_16 (by decide) ?_
  refine va_newa (atype := .int) (ty := .int) (N' := 40) (a0 := (40, .inl (zA (fun _ => (0 : Int))))) hx hb (hts _ mcX7_init_6) rfl hK hP hD hS hA (fun _ => rfl) (by decide) (by decide) (Nat.le_of_ble_eq_true rfl) (Nat.le_of_ble_eq_true rfl) (Nat.le_of_ble_eq_true rfl) dX7_init_18 (fun q1 cA H hK2 hP hD hS => ?_)
  obtain rfl : G 1 = cA := cA_int hK2 (i := 1) (j := 6) rfl rfl
  clear hK2
  have hP : va_P D vwCl [(a_p0, .inr (7, [.int (Int32.ofInt (-4 : Int)), .int (Int32.ofInt (0 : Int)), .null])), (q1, .inl (G 1, 40, .inl (zA (fun _ => (0 : Int)))))] H := hP
  have hD : va_D A [(a_p0, .inr (7, [.int (Int32.ofInt (-4 : Int)), .int (Int32.ofInt (0 : Int)), .null])), (q1, .inl (G 1, 40, .inl (zA (fun _ => (0 : Int)))))] := hD
  refine va_putF (D := D) (ci := 7) (v := .ref q1) (ty := .array .int) (C := RX7) (T := TX7) (N := 3) hx hb hts icX7_init_X7 tyX7 tyX7_ok nmX7 hown hK hP hD hS 0 rfl rfl 2 (by decide) (hts _ mcX7_init_7) (fun _ h9 => h9) rfl hin rfl (by decide +kernel) rfl rfl (Nat.le_of_ble_eq_true rfl) dX7_init_20 (fun H locs hP hD hS => ?_)
  have hP : va_P D vwCl [(a_p0, .inr (7, [.int (Int32.ofInt (-4 : Int)), .int (Int32.ofInt (0 : Int)), .ref q1])), (q1, .inl (G 1, 40, .inl (zA (fun _ => (0 : Int)))))] H := hP
  have hD : va_D A [(a_p0, .inr (7, [.int (Int32.ofInt (-4 : Int)), .int (Int32.ofInt (0 : Int)), .ref q1])), (q1, .inl (G 1, 40, .inl (zA (fun _ => (0 : Int)))))] := hD
  rw [hQ]
  exact W.vret hx hb hr (fun t ht hW => ⟨⟨(), rfl, trivial, q1, by rw [ht]; exact hP, va_K.moved hW.alike hK, hD⟩, hS.F ht⟩) hS.2.2 dX7_init_23

abbrev rm_X2_init : Room := { frames := 1, cells := 3, slots := 105, locals := 12 }
theorem mcX2_init_0 : Cond.methodLink RX2 3 objectInit ∈ wsX2_init := by decide +kernel
theorem mcX2_init_1 : Cond.instanceMethod objectInit ∈ wsX2_init := by decide +kernel
theorem mcX2_init_2 : Cond.code objectInit ⟨#[0xb1]⟩ 1 none ∈ wsX2_init := by decide +kernel
theorem mcX2_init_3 : Cond.arrayClass .int ∈ wsX2_init := by decide +kernel
theorem icX2_init_X2 : ∀ w ∈ wsX20, w ∈ wsX2_init := by decide +kernel
theorem mcX2_init_5 : Cond.fieldLink RX2 9 "LadleKings$Kitchen" "places" "[I" ∈ wsX2_init := by decide +kernel
theorem mcX2_init_6 : Cond.fieldLink RX2 15 "LadleKings$Kitchen" "holders" "[I" ∈ wsX2_init := by decide +kernel
theorem mcX2_init_7 : Cond.fieldLink RX2 18 "LadleKings$Kitchen" "stirred" "[I" ∈ wsX2_init := by decide +kernel
theorem mcX2_init_8 : Cond.fieldLink RX2 21 "LadleKings$Kitchen" "rules" "LLadleKings$Rules;" ∈ wsX2_init := by decide +kernel
theorem mcX2_init_9 : Cond.fieldLink RX2 25 "LadleKings$Kitchen" "state" "LLadleKings$State;" ∈ wsX2_init := by decide +kernel
def pc_X2_init (D : va_G) (G : Nat → ClassId) (sz : Nat) (a_p0 : Nat) (a_p1 : Nat) (a_p2 : Nat) : Array Value → State → Prop := va_Pc [.ref a_p0, .ref a_p1, .ref a_p2] (fun U => U.heap.size = sz ∧ va_P D vwCl [(a_p0, .inr (2, [.null, .null, .null, .null, .null]))] U.heap ∧ va_K D vwCl (tyG G) U ∧ va_D (fun _ => True) [(a_p0, .inr (2, [.null, .null, .null, .null, .null]))])
set_option maxHeartbeats 8000000 in
set_option maxRecDepth 100000 in
theorem c_X2_init (l : Launch) (D : va_G) (G : Nat → ClassId) (sz : Nat) (a_p0 : Nat) (a_p1 : Nat) (a_p2 : Nat) : Met l yX2_init wsX2_init rm_X2_init (pc_X2_init D G sz a_p0 a_p1 a_p2) (va_Qv (fun (_ : Unit) => True) (fun _ t => ∃ q1 q2 q3 : Nat, va_P D vwCl [(a_p0, .inr (2, [.ref a_p1, .ref a_p2, .ref q1, .ref q2, .ref q3])), (q1, .inl (G 1, 49, .inl (zA (fun _ => (0 : Int))))), (q2, .inl (G 1, 49, .inl (zA (fun _ => (0 : Int))))), (q3, .inl (G 1, 7, .inl (zA (fun _ => (0 : Int)))))] t.heap ∧ va_K D vwCl (tyG G) t ∧ va_D (va_A [(a_p0, .inr (2, [.null, .null, .null, .null, .null]))] sz) [(a_p0, .inr (2, [.ref a_p1, .ref a_p2, .ref q1, .ref q2, .ref q3])), (q1, .inl (G 1, 49, .inl (zA (fun _ => (0 : Int))))), (q2, .inl (G 1, 49, .inl (zA (fun _ => (0 : Int))))), (q3, .inl (G 1, 7, .inl (zA (fun _ => (0 : Int)))))]) (va_A [(a_p0, .inr (2, [.null, .null, .null, .null, .null]))] sz)) 3 105 (va_A [(a_p0, .inr (2, [.null, .null, .null, .null, .null]))] sz) := by
  refine Met.ofW (cc := cX2_init) (maxL := 3) (ret := none) (by decide) rfl ?_
  intro p e s m args below meth c s₁ B hml hv
  obtain ⟨rfl, hsz, hP, hK, hD0⟩ := hv
  have hx := B.exec
  have hb := B.bytes
  have hr := B.returns
  have hts := atoms_spec (ws := wsX2_init) B.pre
  have hown : s.vm.findClass RX2 = some m.cls := findClass_of_methodNamed B.named
  have hlocks := B.notSynchronized
  have hin : meth.name = "<init>" := (name_of_methodNamed B.named B.method).1
  subst hsz
  have hD := hD0.self (sz := s.heap.size)
  generalize hAe : va_A [(a_p0, .inr (2, [.null, .null, .null, .null, .null]))] s.heap.size = A at hD ⊢
  have hA : ∀ q : Nat, s.heap.size ≤ q → A q := fun q h => by rw [← hAe]; exact Or.inr h
  clear hAe hD0
  have hS : va_S A s.heap s.heap [] := va_S.rf
  have hl := lv_entry ([.ref a_p0, .ref a_p1, .ref a_p2]) (n := 3) (Nat.le_of_ble_eq_true rfl)
  rw [lg_entry_eq]
  generalize (lg_sl ([.ref a_p0, .ref a_p1, .ref a_p2]) ++ List.replicate (3 - (lg_sl ([.ref a_p0, .ref a_p1, .ref a_p2])).length) Slot.unset).toArray = ls at hl ⊢
  have hl : lv_has ls 3 [(0, .ref a_p0), (1, .ref a_p1), (2, .ref a_p2)] := hl
  refine W_nameQ (fun Q hQ => ?_)
  refine lv_aload_n hx hb dX2_init_0 rfl (lv_at hl 0 rfl) ?_
  refine W.objInit hx hb hown (hts _ mcX2_init_0) (hts _ mcX2_init_1) (hts _ mcX2_init_2) rfl (by rw [hml]; exact hl.1) rfl dX2_init_1 (Nat.le_of_ble_eq_true rfl) (Nat.le_of_ble_eq_true rfl) ?_
  refine W.eq (g2 := F0 m 4 ls []) rfl ?_
  refine lv_aload_n hx hb dX2_init_4 rfl (lv_at hl 0 rfl) ?_
  refine lv_bipush (v := (Int32.ofInt (49 : Int))) hx hb dX2_init_5 (by decide) ?_
  refine va_newa (atype := .int) (ty := .int) (N' := 49) (a0 := (49, .inl (zA (fun _ => (0 : Int))))) hx hb (hts _ mcX2_init_3) rfl hK hP hD hS hA (fun _ => rfl) (by decide) (by decide) (Nat.le_of_ble_eq_true rfl) (Nat.le_of_ble_eq_true rfl) (Nat.le_of_ble_eq_true rfl) dX2_init_7 (fun q1 cA H hK2 hP hD hS => ?_)
  obtain rfl : G 1 = cA := cA_int hK2 (i := 1) (j := 6) rfl rfl
  clear hK2
  have hP : va_P D vwCl [(a_p0, .inr (2, [.null, .null, .null, .null, .null])), (q1, .inl (G 1, 49, .inl (zA (fun _ => (0 : Int)))))] H := hP
  have hD : va_D A [(a_p0, .inr (2, [.null, .null, .null, .null, .null])), (q1, .inl (G 1, 49, .inl (zA (fun _ => (0 : Int)))))] := hD
  refine va_putF (D := D) (ci := 2) (v := .ref q1) (ty := .array .int) (C := RX2) (T := TX2) (N := 5) hx hb hts icX2_init_X2 tyX2 tyX2_ok nmX2 hown hK hP hD hS 0 rfl rfl 2 (by decide) (hts _ mcX2_init_5) (fun _ h9 => h9) rfl hin rfl (by decide +kernel) rfl rfl (Nat.le_of_ble_eq_true rfl) dX2_init_9 (fun H locs hP hD hS => ?_)
  have hP : va_P D vwCl [(a_p0, .inr (2, [.null, .null, .ref q1, .null, .null])), (q1, .inl (G 1, 49, .inl (zA (fun _ => (0 : Int)))))] H := hP
  have hD : va_D A [(a_p0, .inr (2, [.null, .null, .ref q1, .null, .null])), (q1, .inl (G 1, 49, .inl (zA (fun _ => (0 : Int)))))] := hD
  refine lv_aload_n hx hb dX2_init_12 rfl (lv_at hl 0 rfl) ?_
  refine lv_bipush (v := (Int32.ofInt (49 : Int))) hx hb dX2_init_13 (by decide) ?_
  refine va_newa (atype := .int) (ty := .int) (N' := 49) (a0 := (49, .inl (zA (fun _ => (0 : Int))))) hx hb (hts _ mcX2_init_3) rfl hK hP hD hS hA (fun _ => rfl) (by decide) (by decide) (Nat.le_of_ble_eq_true rfl) (Nat.le_of_ble_eq_true rfl) (Nat.le_of_ble_eq_true rfl) dX2_init_15 (fun q2 cA H hK2 hP hD hS => ?_)
  obtain rfl : G 1 = cA := cA_int hK2 (i := 1) (j := 6) rfl rfl
  clear hK2
  have hP : va_P D vwCl [(a_p0, .inr (2, [.null, .null, .ref q1, .null, .null])), (q1, .inl (G 1, 49, .inl (zA (fun _ => (0 : Int))))), (q2, .inl (G 1, 49, .inl (zA (fun _ => (0 : Int)))))] H := hP
  have hD : va_D A [(a_p0, .inr (2, [.null, .null, .ref q1, .null, .null])), (q1, .inl (G 1, 49, .inl (zA (fun _ => (0 : Int))))), (q2, .inl (G 1, 49, .inl (zA (fun _ => (0 : Int)))))] := hD
  refine va_putF (D := D) (ci := 2) (v := .ref q2) (ty := .array .int) (C := RX2) (T := TX2) (N := 5) hx hb hts icX2_init_X2 tyX2 tyX2_ok nmX2 hown hK hP hD hS 0 rfl rfl 3 (by decide) (hts _ mcX2_init_6) (fun _ h9 => h9) rfl hin rfl (by decide +kernel) rfl rfl (Nat.le_of_ble_eq_true rfl) dX2_init_17 (fun H locs hP hD hS => ?_)
  have hP : va_P D vwCl [(a_p0, .inr (2, [.null, .null, .ref q1, .ref q2, .null])), (q1, .inl (G 1, 49, .inl (zA (fun _ => (0 : Int))))), (q2, .inl (G 1, 49, .inl (zA (fun _ => (0 : Int)))))] H := hP
  have hD : va_D A [(a_p0, .inr (2, [.null, .null, .ref q1, .ref q2, .null])), (q1, .inl (G 1, 49, .inl (zA (fun _ => (0 : Int))))), (q2, .inl (G 1, 49, .inl (zA (fun _ => (0 : Int)))))] := hD
  refine lv_aload_n hx hb dX2_init_20 rfl (lv_at hl 0 rfl) ?_
  refine lv_bipush (v := (Int32.ofInt (7 : Int))) hx hb dX2_init_21 (by decide) ?_
  refine va_newa (atype := .int) (ty := .int) (N' := 7) (a0 := (7, .inl (zA (fun _ => (0 : Int))))) hx hb (hts _ mcX2_init_3) rfl hK hP hD hS hA (fun _ => rfl) (by decide) (by decide) (Nat.le_of_ble_eq_true rfl) (Nat.le_of_ble_eq_true rfl) (Nat.le_of_ble_eq_true rfl) dX2_init_23 (fun q3 cA H hK2 hP hD hS => ?_)
  obtain rfl : G 1 = cA := cA_int hK2 (i := 1) (j := 6) rfl rfl
  clear hK2
  have hP : va_P D vwCl [(a_p0, .inr (2, [.null, .null, .ref q1, .ref q2, .null])), (q1, .inl (G 1, 49, .inl (zA (fun _ => (0 : Int))))), (q2, .inl (G 1, 49, .inl (zA (fun _ => (0 : Int))))), (q3, .inl (G 1, 7, .inl (zA (fun _ => (0 : Int)))))] H := hP
  have hD : va_D A [(a_p0, .inr (2, [.null, .null, .ref q1, .ref q2, .null])), (q1, .inl (G 1, 49, .inl (zA (fun _ => (0 : Int))))), (q2, .inl (G 1, 49, .inl (zA (fun _ => (0 : Int))))), (q3, .inl (G 1, 7, .inl (zA (fun _ => (0 : Int)))))] := hD
  refine va_putF (D := D) (ci := 2) (v := .ref q3) (ty := .array .int) (C := RX2) (T := TX2) (N := 5) hx hb hts icX2_init_X2 tyX2 tyX2_ok nmX2 hown hK hP hD hS 0 rfl rfl 4 (by decide) (hts _ mcX2_init_7) (fun _ h9 => h9) rfl hin rfl (by decide +kernel) rfl rfl (Nat.le_of_ble_eq_true rfl) dX2_init_25 (fun H locs hP hD hS => ?_)
  have hP : va_P D vwCl [(a_p0, .inr (2, [.null, .null, .ref q1, .ref q2, .ref q3])), (q1, .inl (G 1, 49, .inl (zA (fun _ => (0 : Int))))), (q2, .inl (G 1, 49, .inl (zA (fun _ => (0 : Int))))), (q3, .inl (G 1, 7, .inl (zA (fun _ => (0 : Int)))))] H := hP
  have hD : va_D A [(a_p0, .inr (2, [.null, .null, .ref q1, .ref q2, .ref q3])), (q1, .inl (G 1, 49, .inl (zA (fun _ => (0 : Int))))), (q2, .inl (G 1, 49, .inl (zA (fun _ => (0 : Int))))), (q3, .inl (G 1, 7, .inl (zA (fun _ => (0 : Int)))))] := hD
  refine lv_aload_n hx hb dX2_init_28 rfl (lv_at hl 0 rfl) ?_
  refine lv_aload_n hx hb dX2_init_29 rfl (lv_at hl 1 rfl) ?_
  refine va_putF (D := D) (ci := 2) (v := .ref a_p1) (ty := .object "LadleKings$Rules") (C := RX2) (T := TX2) (N := 5) hx hb hts icX2_init_X2 tyX2 tyX2_ok nmX2 hown hK hP hD hS 0 rfl rfl 0 (by decide) (hts _ mcX2_init_8) (fun _ h9 => h9) rfl hin rfl (by decide +kernel) rfl rfl (Nat.le_of_ble_eq_true rfl) dX2_init_30 (fun H locs hP hD hS => ?_)
  have hP : va_P D vwCl [(a_p0, .inr (2, [.ref a_p1, .null, .ref q1, .ref q2, .ref q3])), (q1, .inl (G 1, 49, .inl (zA (fun _ => (0 : Int))))), (q2, .inl (G 1, 49, .inl (zA (fun _ => (0 : Int))))), (q3, .inl (G 1, 7, .inl (zA (fun _ => (0 : Int)))))] H := hP
  have hD : va_D A [(a_p0, .inr (2, [.ref a_p1, .null, .ref q1, .ref q2, .ref q3])), (q1, .inl (G 1, 49, .inl (zA (fun _ => (0 : Int))))), (q2, .inl (G 1, 49, .inl (zA (fun _ => (0 : Int))))), (q3, .inl (G 1, 7, .inl (zA (fun _ => (0 : Int)))))] := hD
  refine lv_aload_n hx hb dX2_init_33 rfl (lv_at hl 0 rfl) ?_
  refine lv_aload_n hx hb dX2_init_34 rfl (lv_at hl 2 rfl) ?_
  refine va_putF (D := D) (ci := 2) (v := .ref a_p2) (ty := .object "LadleKings$State") (C := RX2) (T := TX2) (N := 5) hx hb hts icX2_init_X2 tyX2 tyX2_ok nmX2 hown hK hP hD hS 0 rfl rfl 1 (by decide) (hts _ mcX2_init_9) (fun _ h9 => h9) rfl hin rfl (by decide +kernel) rfl rfl (Nat.le_of_ble_eq_true rfl) dX2_init_35 (fun H locs hP hD hS => ?_)
  have hP : va_P D vwCl [(a_p0, .inr (2, [.ref a_p1, .ref a_p2, .ref q1, .ref q2, .ref q3])), (q1, .inl (G 1, 49, .inl (zA (fun _ => (0 : Int))))), (q2, .inl (G 1, 49, .inl (zA (fun _ => (0 : Int))))), (q3, .inl (G 1, 7, .inl (zA (fun _ => (0 : Int)))))] H := hP
  have hD : va_D A [(a_p0, .inr (2, [.ref a_p1, .ref a_p2, .ref q1, .ref q2, .ref q3])), (q1, .inl (G 1, 49, .inl (zA (fun _ => (0 : Int))))), (q2, .inl (G 1, 49, .inl (zA (fun _ => (0 : Int))))), (q3, .inl (G 1, 7, .inl (zA (fun _ => (0 : Int)))))] := hD
  rw [hQ]
  exact W.vret hx hb hr (fun t ht hW => ⟨⟨(), rfl, trivial, q1, q2, q3, by rw [ht]; exact hP, va_K.moved hW.alike hK, hD⟩, hS.F ht⟩) hS.2.2 dX2_init_38

abbrev rm_X3_init : Room := { frames := 1, cells := 3, slots := 111, locals := 12 }
theorem mcX3_init_0 : Cond.methodLink RX3 3 objectInit ∈ wsX3_init := by decide +kernel
theorem mcX3_init_1 : Cond.instanceMethod objectInit ∈ wsX3_init := by decide +kernel
theorem mcX3_init_2 : Cond.code objectInit ⟨#[0xb1]⟩ 1 none ∈ wsX3_init := by decide +kernel
theorem mcX3_init_3 : Cond.arrayClass .long ∈ wsX3_init := by decide +kernel
theorem icX3_init_X3 : ∀ w ∈ wsX30, w ∈ wsX3_init := by decide +kernel
theorem mcX3_init_5 : Cond.fieldLink RX3 11 "LadleKings$Luck" "rows" "[J" ∈ wsX3_init := by decide +kernel
theorem mcX3_init_6 : Cond.fieldLink RX3 15 "LadleKings$Luck" "later" "[J" ∈ wsX3_init := by decide +kernel
theorem mcX3_init_7 : Cond.fieldLink RX3 18 "LadleKings$Luck" "finds" "[J" ∈ wsX3_init := by decide +kernel
theorem mcX3_init_8 : Cond.fieldLink RX3 21 "LadleKings$Luck" "kitchen" "LLadleKings$Kitchen;" ∈ wsX3_init := by decide +kernel
def pc_X3_init (D : va_G) (G : Nat → ClassId) (sz : Nat) (a_p0 : Nat) (a_p1 : Nat) : Array Value → State → Prop := va_Pc [.ref a_p0, .ref a_p1] (fun U => U.heap.size = sz ∧ va_P D vwCl [(a_p0, .inr (3, [.null, .null, .null, .null]))] U.heap ∧ va_K D vwCl (tyG G) U ∧ va_D (fun _ => True) [(a_p0, .inr (3, [.null, .null, .null, .null]))])
set_option maxHeartbeats 8000000 in
set_option maxRecDepth 100000 in
theorem c_X3_init (l : Launch) (D : va_G) (G : Nat → ClassId) (sz : Nat) (a_p0 : Nat) (a_p1 : Nat) : Met l yX3_init wsX3_init rm_X3_init (pc_X3_init D G sz a_p0 a_p1) (va_Qv (fun (_ : Unit) => True) (fun _ t => ∃ q1 q2 q3 : Nat, va_P D vwCl [(a_p0, .inr (3, [.ref a_p1, .ref q1, .ref q2, .ref q3])), (q1, .inl (G 2, 49, .inr (.inl (zL (fun _ => (0 : Int)))))), (q2, .inl (G 2, 49, .inr (.inl (zL (fun _ => (0 : Int)))))), (q3, .inl (G 2, 13, .inr (.inl (zL (fun _ => (0 : Int))))))] t.heap ∧ va_K D vwCl (tyG G) t ∧ va_D (va_A [(a_p0, .inr (3, [.null, .null, .null, .null]))] sz) [(a_p0, .inr (3, [.ref a_p1, .ref q1, .ref q2, .ref q3])), (q1, .inl (G 2, 49, .inr (.inl (zL (fun _ => (0 : Int)))))), (q2, .inl (G 2, 49, .inr (.inl (zL (fun _ => (0 : Int)))))), (q3, .inl (G 2, 13, .inr (.inl (zL (fun _ => (0 : Int))))))]) (va_A [(a_p0, .inr (3, [.null, .null, .null, .null]))] sz)) 3 111 (va_A [(a_p0, .inr (3, [.null, .null, .null, .null]))] sz) := by
  refine Met.ofW (cc := cX3_init) (maxL := 2) (ret := none) (by decide) rfl ?_
  intro p e s m args below meth c s₁ B hml hv
  obtain ⟨rfl, hsz, hP, hK, hD0⟩ := hv
  have hx := B.exec
  have hb := B.bytes
  have hr := B.returns
  have hts := atoms_spec (ws := wsX3_init) B.pre
  have hown : s.vm.findClass RX3 = some m.cls := findClass_of_methodNamed B.named
  have hlocks := B.notSynchronized
  have hin : meth.name = "<init>" := (name_of_methodNamed B.named B.method).1
  subst hsz
  have hD := hD0.self (sz := s.heap.size)
  generalize hAe : va_A [(a_p0, .inr (3, [.null, .null, .null, .null]))] s.heap.size = A at hD ⊢
  have hA : ∀ q : Nat, s.heap.size ≤ q → A q := fun q h => by rw [← hAe]; exact Or.inr h
  clear hAe hD0
  have hS : va_S A s.heap s.heap [] := va_S.rf
  have hl := lv_entry ([.ref a_p0, .ref a_p1]) (n := 2) (Nat.le_of_ble_eq_true rfl)
  rw [lg_entry_eq]
  generalize (lg_sl ([.ref a_p0, .ref a_p1]) ++ List.replicate (2 - (lg_sl ([.ref a_p0, .ref a_p1])).length) Slot.unset).toArray = ls at hl ⊢
  have hl : lv_has ls 2 [(0, .ref a_p0), (1, .ref a_p1)] := hl
  refine W_nameQ (fun Q hQ => ?_)
  refine lv_aload_n hx hb dX3_init_0 rfl (lv_at hl 0 rfl) ?_
  refine W.objInit hx hb hown (hts _ mcX3_init_0) (hts _ mcX3_init_1) (hts _ mcX3_init_2) rfl (by rw [hml]; exact hl.1) rfl dX3_init_1 (Nat.le_of_ble_eq_true rfl) (Nat.le_of_ble_eq_true rfl) ?_
  refine W.eq (g2 := F0 m 4 ls []) rfl ?_
  refine lv_aload_n hx hb dX3_init_4 rfl (lv_at hl 0 rfl) ?_
  refine lv_bipush (v := (Int32.ofInt (49 : Int))) hx hb dX3_init_5 (by decide) ?_
  refine va_newa (atype := .long) (ty := .long) (N' := 49) (a0 := (49, .inr (.inl (zL (fun _ => (0 : Int)))))) hx hb (hts _ mcX3_init_3) rfl hK hP hD hS hA (fun _ => rfl) (by decide) (by decide) (Nat.le_of_ble_eq_true rfl) (Nat.le_of_ble_eq_true rfl) (Nat.le_of_ble_eq_true rfl) dX3_init_7 (fun q1 cA H hK2 hP hD hS => ?_)
  obtain rfl : G 2 = cA := cA_long hK2 (i := 2) (j := 6) rfl rfl
  clear hK2
  have hP : va_P D vwCl [(a_p0, .inr (3, [.null, .null, .null, .null])), (q1, .inl (G 2, 49, .inr (.inl (zL (fun _ => (0 : Int))))))] H := hP
  have hD : va_D A [(a_p0, .inr (3, [.null, .null, .null, .null])), (q1, .inl (G 2, 49, .inr (.inl (zL (fun _ => (0 : Int))))))] := hD
  refine va_putF (D := D) (ci := 3) (v := .ref q1) (ty := .array .long) (C := RX3) (T := TX3) (N := 4) hx hb hts icX3_init_X3 tyX3 tyX3_ok nmX3 hown hK hP hD hS 0 rfl rfl 1 (by decide) (hts _ mcX3_init_5) (fun _ h9 => h9) rfl hin rfl (by decide +kernel) rfl rfl (Nat.le_of_ble_eq_true rfl) dX3_init_9 (fun H locs hP hD hS => ?_)
  have hP : va_P D vwCl [(a_p0, .inr (3, [.null, .ref q1, .null, .null])), (q1, .inl (G 2, 49, .inr (.inl (zL (fun _ => (0 : Int))))))] H := hP
  have hD : va_D A [(a_p0, .inr (3, [.null, .ref q1, .null, .null])), (q1, .inl (G 2, 49, .inr (.inl (zL (fun _ => (0 : Int))))))] := hD
  refine lv_aload_n hx hb dX3_init_12 rfl (lv_at hl 0 rfl) ?_
  refine lv_bipush (v := (Int32.ofInt (49 : Int))) hx hb dX3_init_13 (by decide) ?_
  refine va_newa (atype := .long) (ty := .long) (N' := 49) (a0 := (49, .inr (.inl (zL (fun _ => (0 : Int)))))) hx hb (hts _ mcX3_init_3) rfl hK hP hD hS hA (fun _ => rfl) (by decide) (by decide) (Nat.le_of_ble_eq_true rfl) (Nat.le_of_ble_eq_true rfl) (Nat.le_of_ble_eq_true rfl) dX3_init_15 (fun q2 cA H hK2 hP hD hS => ?_)
  obtain rfl : G 2 = cA := cA_long hK2 (i := 2) (j := 6) rfl rfl
  clear hK2
  have hP : va_P D vwCl [(a_p0, .inr (3, [.null, .ref q1, .null, .null])), (q1, .inl (G 2, 49, .inr (.inl (zL (fun _ => (0 : Int)))))), (q2, .inl (G 2, 49, .inr (.inl (zL (fun _ => (0 : Int))))))] H := hP
  have hD : va_D A [(a_p0, .inr (3, [.null, .ref q1, .null, .null])), (q1, .inl (G 2, 49, .inr (.inl (zL (fun _ => (0 : Int)))))), (q2, .inl (G 2, 49, .inr (.inl (zL (fun _ => (0 : Int))))))] := hD
  refine va_putF (D := D) (ci := 3) (v := .ref q2) (ty := .array .long) (C := RX3) (T := TX3) (N := 4) hx hb hts icX3_init_X3 tyX3 tyX3_ok nmX3 hown hK hP hD hS 0 rfl rfl 2 (by decide) (hts _ mcX3_init_6) (fun _ h9 => h9) rfl hin rfl (by decide +kernel) rfl rfl (Nat.le_of_ble_eq_true rfl) dX3_init_17 (fun H locs hP hD hS => ?_)
  have hP : va_P D vwCl [(a_p0, .inr (3, [.null, .ref q1, .ref q2, .null])), (q1, .inl (G 2, 49, .inr (.inl (zL (fun _ => (0 : Int)))))), (q2, .inl (G 2, 49, .inr (.inl (zL (fun _ => (0 : Int))))))] H := hP
  have hD : va_D A [(a_p0, .inr (3, [.null, .ref q1, .ref q2, .null])), (q1, .inl (G 2, 49, .inr (.inl (zL (fun _ => (0 : Int)))))), (q2, .inl (G 2, 49, .inr (.inl (zL (fun _ => (0 : Int))))))] := hD
  refine lv_aload_n hx hb dX3_init_20 rfl (lv_at hl 0 rfl) ?_
  refine lv_bipush (v := (Int32.ofInt (13 : Int))) hx hb dX3_init_21 (by decide) ?_
  refine va_newa (atype := .long) (ty := .long) (N' := 13) (a0 := (13, .inr (.inl (zL (fun _ => (0 : Int)))))) hx hb (hts _ mcX3_init_3) rfl hK hP hD hS hA (fun _ => rfl) (by decide) (by decide) (Nat.le_of_ble_eq_true rfl) (Nat.le_of_ble_eq_true rfl) (Nat.le_of_ble_eq_true rfl) dX3_init_23 (fun q3 cA H hK2 hP hD hS => ?_)
  obtain rfl : G 2 = cA := cA_long hK2 (i := 2) (j := 6) rfl rfl
  clear hK2
  have hP : va_P D vwCl [(a_p0, .inr (3, [.null, .ref q1, .ref q2, .null])), (q1, .inl (G 2, 49, .inr (.inl (zL (fun _ => (0 : Int)))))), (q2, .inl (G 2, 49, .inr (.inl (zL (fun _ => (0 : Int)))))), (q3, .inl (G 2, 13, .inr (.inl (zL (fun _ => (0 : Int))))))] H := hP
  have hD : va_D A [(a_p0, .inr (3, [.null, .ref q1, .ref q2, .null])), (q1, .inl (G 2, 49, .inr (.inl (zL (fun _ => (0 : Int)))))), (q2, .inl (G 2, 49, .inr (.inl (zL (fun _ => (0 : Int)))))), (q3, .inl (G 2, 13, .inr (.inl (zL (fun _ => (0 : Int))))))] := hD
  refine va_putF (D := D) (ci := 3) (v := .ref q3) (ty := .array .long) (C := RX3) (T := TX3) (N := 4) hx hb hts icX3_init_X3 tyX3 tyX3_ok nmX3 hown hK hP hD hS 0 rfl rfl 3 (by decide) (hts _ mcX3_init_7) (fun _ h9 => h9) rfl hin rfl (by decide +kernel) rfl rfl (Nat.le_of_ble_eq_true rfl) dX3_init_25 (fun H locs hP hD hS => ?_)
  have hP : va_P D vwCl [(a_p0, .inr (3, [.null, .ref q1, .ref q2, .ref q3])), (q1, .inl (G 2, 49, .inr (.inl (zL (fun _ => (0 : Int)))))), (q2, .inl (G 2, 49, .inr (.inl (zL (fun _ => (0 : Int)))))), (q3, .inl (G 2, 13, .inr (.inl (zL (fun _ => (0 : Int))))))] H := hP
  have hD : va_D A [(a_p0, .inr (3, [.null, .ref q1, .ref q2, .ref q3])), (q1, .inl (G 2, 49, .inr (.inl (zL (fun _ => (0 : Int)))))), (q2, .inl (G 2, 49, .inr (.inl (zL (fun _ => (0 : Int)))))), (q3, .inl (G 2, 13, .inr (.inl (zL (fun _ => (0 : Int))))))] := hD
  refine lv_aload_n hx hb dX3_init_28 rfl (lv_at hl 0 rfl) ?_
  refine lv_aload_n hx hb dX3_init_29 rfl (lv_at hl 1 rfl) ?_
  refine va_putF (D := D) (ci := 3) (v := .ref a_p1) (ty := .object "LadleKings$Kitchen") (C := RX3) (T := TX3) (N := 4) hx hb hts icX3_init_X3 tyX3 tyX3_ok nmX3 hown hK hP hD hS 0 rfl rfl 0 (by decide) (hts _ mcX3_init_8) (fun _ h9 => h9) rfl hin rfl (by decide +kernel) rfl rfl (Nat.le_of_ble_eq_true rfl) dX3_init_30 (fun H locs hP hD hS => ?_)
  have hP : va_P D vwCl [(a_p0, .inr (3, [.ref a_p1, .ref q1, .ref q2, .ref q3])), (q1, .inl (G 2, 49, .inr (.inl (zL (fun _ => (0 : Int)))))), (q2, .inl (G 2, 49, .inr (.inl (zL (fun _ => (0 : Int)))))), (q3, .inl (G 2, 13, .inr (.inl (zL (fun _ => (0 : Int))))))] H := hP
  have hD : va_D A [(a_p0, .inr (3, [.ref a_p1, .ref q1, .ref q2, .ref q3])), (q1, .inl (G 2, 49, .inr (.inl (zL (fun _ => (0 : Int)))))), (q2, .inl (G 2, 49, .inr (.inl (zL (fun _ => (0 : Int)))))), (q3, .inl (G 2, 13, .inr (.inl (zL (fun _ => (0 : Int))))))] := hD
  rw [hQ]
  exact W.vret hx hb hr (fun t ht hW => ⟨⟨(), rfl, trivial, q1, q2, q3, by rw [ht]; exact hP, va_K.moved hW.alike hK, hD⟩, hS.F ht⟩) hS.2.2 dX3_init_33

abbrev rm_X5_init : Room := { frames := 1, cells := 2, slots := 21, locals := 12 }
theorem mcX5_init_0 : Cond.methodLink RX5 3 objectInit ∈ wsX5_init := by decide +kernel
theorem mcX5_init_1 : Cond.instanceMethod objectInit ∈ wsX5_init := by decide +kernel
theorem mcX5_init_2 : Cond.code objectInit ⟨#[0xb1]⟩ 1 none ∈ wsX5_init := by decide +kernel
theorem mcX5_init_3 : Cond.arrayClass .long ∈ wsX5_init := by decide +kernel
theorem icX5_init_X5 : ∀ w ∈ wsX50, w ∈ wsX5_init := by decide +kernel
theorem mcX5_init_5 : Cond.fieldLink RX5 9 "LadleKings$Plans" "good" "[J" ∈ wsX5_init := by decide +kernel
theorem mcX5_init_6 : Cond.arrayClass .int ∈ wsX5_init := by decide +kernel
theorem mcX5_init_7 : Cond.fieldLink RX5 15 "LadleKings$Plans" "row" "[I" ∈ wsX5_init := by decide +kernel
theorem mcX5_init_8 : Cond.fieldLink RX5 19 "LadleKings$Plans" "kitchen" "LLadleKings$Kitchen;" ∈ wsX5_init := by decide +kernel
def pc_X5_init (D : va_G) (G : Nat → ClassId) (sz : Nat) (a_p0 : Nat) (a_p1 : Nat) : Array Value → State → Prop := va_Pc [.ref a_p0, .ref a_p1] (fun U => U.heap.size = sz ∧ va_P D vwCl [(a_p0, .inr (5, [.null, .null, .null]))] U.heap ∧ va_K D vwCl (tyG G) U ∧ va_D (fun _ => True) [(a_p0, .inr (5, [.null, .null, .null]))])
set_option maxHeartbeats 8000000 in
set_option maxRecDepth 100000 in
theorem c_X5_init (l : Launch) (D : va_G) (G : Nat → ClassId) (sz : Nat) (a_p0 : Nat) (a_p1 : Nat) : Met l yX5_init wsX5_init rm_X5_init (pc_X5_init D G sz a_p0 a_p1) (va_Qv (fun (_ : Unit) => True) (fun _ t => ∃ q1 q2 : Nat, va_P D vwCl [(a_p0, .inr (5, [.ref a_p1, .ref q1, .ref q2])), (q1, .inl (G 2, 11, .inr (.inl (zL (fun _ => (0 : Int)))))), (q2, .inl (G 1, 10, .inl (zA (fun _ => (0 : Int)))))] t.heap ∧ va_K D vwCl (tyG G) t ∧ va_D (va_A [(a_p0, .inr (5, [.null, .null, .null]))] sz) [(a_p0, .inr (5, [.ref a_p1, .ref q1, .ref q2])), (q1, .inl (G 2, 11, .inr (.inl (zL (fun _ => (0 : Int)))))), (q2, .inl (G 1, 10, .inl (zA (fun _ => (0 : Int)))))]) (va_A [(a_p0, .inr (5, [.null, .null, .null]))] sz)) 2 21 (va_A [(a_p0, .inr (5, [.null, .null, .null]))] sz) := by
  refine Met.ofW (cc := cX5_init) (maxL := 2) (ret := none) (by decide) rfl ?_
  intro p e s m args below meth c s₁ B hml hv
  obtain ⟨rfl, hsz, hP, hK, hD0⟩ := hv
  have hx := B.exec
  have hb := B.bytes
  have hr := B.returns
  have hts := atoms_spec (ws := wsX5_init) B.pre
  have hown : s.vm.findClass RX5 = some m.cls := findClass_of_methodNamed B.named
  have hlocks := B.notSynchronized
  have hin : meth.name = "<init>" := (name_of_methodNamed B.named B.method).1
  subst hsz
  have hD := hD0.self (sz := s.heap.size)
  generalize hAe : va_A [(a_p0, .inr (5, [.null, .null, .null]))] s.heap.size = A at hD ⊢
  have hA : ∀ q : Nat, s.heap.size ≤ q → A q := fun q h => by rw [← hAe]; exact Or.inr h
  clear hAe hD0
  have hS : va_S A s.heap s.heap [] := va_S.rf
  have hl := lv_entry ([.ref a_p0, .ref a_p1]) (n := 2) (Nat.le_of_ble_eq_true rfl)
  rw [lg_entry_eq]
  generalize (lg_sl ([.ref a_p0, .ref a_p1]) ++ List.replicate (2 - (lg_sl ([.ref a_p0, .ref a_p1])).length) Slot.unset).toArray = ls at hl ⊢
  have hl : lv_has ls 2 [(0, .ref a_p0), (1, .ref a_p1)] := hl
  refine W_nameQ (fun Q hQ => ?_)
  refine lv_aload_n hx hb dX5_init_0 rfl (lv_at hl 0 rfl) ?_
  refine W.objInit hx hb hown (hts _ mcX5_init_0) (hts _ mcX5_init_1) (hts _ mcX5_init_2) rfl (by rw [hml]; exact hl.1) rfl dX5_init_1 (Nat.le_of_ble_eq_true rfl) (Nat.le_of_ble_eq_true rfl) ?_
  refine W.eq (g2 := F0 m 4 ls []) rfl ?_
  refine lv_aload_n hx hb dX5_init_4 rfl (lv_at hl 0 rfl) ?_
  refine lv_bipush (v := (Int32.ofInt (11 : Int))) hx hb dX5_init_5 (by decide) ?_
  refine va_newa (atype := .long) (ty := .long) (N' := 11) (a0 := (11, .inr (.inl (zL (fun _ => (0 : Int)))))) hx hb (hts _ mcX5_init_3) rfl hK hP hD hS hA (fun _ => rfl) (by decide) (by decide) (Nat.le_of_ble_eq_true rfl) (Nat.le_of_ble_eq_true rfl) (Nat.le_of_ble_eq_true rfl) dX5_init_7 (fun q1 cA H hK2 hP hD hS => ?_)
  obtain rfl : G 2 = cA := cA_long hK2 (i := 2) (j := 6) rfl rfl
  clear hK2
  have hP : va_P D vwCl [(a_p0, .inr (5, [.null, .null, .null])), (q1, .inl (G 2, 11, .inr (.inl (zL (fun _ => (0 : Int))))))] H := hP
  have hD : va_D A [(a_p0, .inr (5, [.null, .null, .null])), (q1, .inl (G 2, 11, .inr (.inl (zL (fun _ => (0 : Int))))))] := hD
  refine va_putF (D := D) (ci := 5) (v := .ref q1) (ty := .array .long) (C := RX5) (T := TX5) (N := 3) hx hb hts icX5_init_X5 tyX5 tyX5_ok nmX5 hown hK hP hD hS 0 rfl rfl 1 (by decide) (hts _ mcX5_init_5) (fun _ h9 => h9) rfl hin rfl (by decide +kernel) rfl rfl (Nat.le_of_ble_eq_true rfl) dX5_init_9 (fun H locs hP hD hS => ?_)
  have hP : va_P D vwCl [(a_p0, .inr (5, [.null, .ref q1, .null])), (q1, .inl (G 2, 11, .inr (.inl (zL (fun _ => (0 : Int))))))] H := hP
  have hD : va_D A [(a_p0, .inr (5, [.null, .ref q1, .null])), (q1, .inl (G 2, 11, .inr (.inl (zL (fun _ => (0 : Int))))))] := hD
  refine lv_aload_n hx hb dX5_init_12 rfl (lv_at hl 0 rfl) ?_
  refine lv_bipush (v := (Int32.ofInt (10 : Int))) hx hb dX5_init_13 (by decide) ?_
  refine va_newa (atype := .int) (ty := .int) (N' := 10) (a0 := (10, .inl (zA (fun _ => (0 : Int))))) hx hb (hts _ mcX5_init_6) rfl hK hP hD hS hA (fun _ => rfl) (by decide) (by decide) (Nat.le_of_ble_eq_true rfl) (Nat.le_of_ble_eq_true rfl) (Nat.le_of_ble_eq_true rfl) dX5_init_15 (fun q2 cA H hK2 hP hD hS => ?_)
  obtain rfl : G 1 = cA := cA_int hK2 (i := 1) (j := 6) rfl rfl
  clear hK2
  have hP : va_P D vwCl [(a_p0, .inr (5, [.null, .ref q1, .null])), (q1, .inl (G 2, 11, .inr (.inl (zL (fun _ => (0 : Int)))))), (q2, .inl (G 1, 10, .inl (zA (fun _ => (0 : Int)))))] H := hP
  have hD : va_D A [(a_p0, .inr (5, [.null, .ref q1, .null])), (q1, .inl (G 2, 11, .inr (.inl (zL (fun _ => (0 : Int)))))), (q2, .inl (G 1, 10, .inl (zA (fun _ => (0 : Int)))))] := hD
  refine va_putF (D := D) (ci := 5) (v := .ref q2) (ty := .array .int) (C := RX5) (T := TX5) (N := 3) hx hb hts icX5_init_X5 tyX5 tyX5_ok nmX5 hown hK hP hD hS 0 rfl rfl 2 (by decide) (hts _ mcX5_init_7) (fun _ h9 => h9) rfl hin rfl (by decide +kernel) rfl rfl (Nat.le_of_ble_eq_true rfl) dX5_init_17 (fun H locs hP hD hS => ?_)
  have hP : va_P D vwCl [(a_p0, .inr (5, [.null, .ref q1, .ref q2])), (q1, .inl (G 2, 11, .inr (.inl (zL (fun _ => (0 : Int)))))), (q2, .inl (G 1, 10, .inl (zA (fun _ => (0 : Int)))))] H := hP
  have hD : va_D A [(a_p0, .inr (5, [.null, .ref q1, .ref q2])), (q1, .inl (G 2, 11, .inr (.inl (zL (fun _ => (0 : Int)))))), (q2, .inl (G 1, 10, .inl (zA (fun _ => (0 : Int)))))] := hD
  refine lv_aload_n hx hb dX5_init_20 rfl (lv_at hl 0 rfl) ?_
  refine lv_aload_n hx hb dX5_init_21 rfl (lv_at hl 1 rfl) ?_
  refine va_putF (D := D) (ci := 5) (v := .ref a_p1) (ty := .object "LadleKings$Kitchen") (C := RX5) (T := TX5) (N := 3) hx hb hts icX5_init_X5 tyX5 tyX5_ok nmX5 hown hK hP hD hS 0 rfl rfl 0 (by decide) (hts _ mcX5_init_8) (fun _ h9 => h9) rfl hin rfl (by decide +kernel) rfl rfl (Nat.le_of_ble_eq_true rfl) dX5_init_22 (fun H locs hP hD hS => ?_)
  have hP : va_P D vwCl [(a_p0, .inr (5, [.ref a_p1, .ref q1, .ref q2])), (q1, .inl (G 2, 11, .inr (.inl (zL (fun _ => (0 : Int)))))), (q2, .inl (G 1, 10, .inl (zA (fun _ => (0 : Int)))))] H := hP
  have hD : va_D A [(a_p0, .inr (5, [.ref a_p1, .ref q1, .ref q2])), (q1, .inl (G 2, 11, .inr (.inl (zL (fun _ => (0 : Int)))))), (q2, .inl (G 1, 10, .inl (zA (fun _ => (0 : Int)))))] := hD
  rw [hQ]
  exact W.vret hx hb hr (fun t ht hW => ⟨⟨(), rfl, trivial, q1, q2, by rw [ht]; exact hP, va_K.moved hW.alike hK, hD⟩, hS.F ht⟩) hS.2.2 dX5_init_25

abbrev rm_X0_init : Room := { frames := 1, cells := 0, slots := 0, locals := 12 }
theorem mcX0_init_0 : Cond.methodLink RX0 3 objectInit ∈ wsX0_init := by decide +kernel
theorem mcX0_init_1 : Cond.instanceMethod objectInit ∈ wsX0_init := by decide +kernel
theorem mcX0_init_2 : Cond.code objectInit ⟨#[0xb1]⟩ 1 none ∈ wsX0_init := by decide +kernel
theorem icX0_init_X0 : ∀ w ∈ wsX00, w ∈ wsX0_init := by decide +kernel
theorem mcX0_init_4 : Cond.fieldLink RX0 9 "LadleKings$Coups" "kitchen" "LLadleKings$Kitchen;" ∈ wsX0_init := by decide +kernel
def pc_X0_init (D : va_G) (G : Nat → ClassId) (sz : Nat) (a_p0 : Nat) (a_p1 : Nat) : Array Value → State → Prop := va_Pc [.ref a_p0, .ref a_p1] (fun U => U.heap.size = sz ∧ va_P D vwCl [(a_p0, .inr (0, [.null]))] U.heap ∧ va_K D vwCl (tyG G) U ∧ va_D (fun _ => True) [(a_p0, .inr (0, [.null]))])
set_option maxHeartbeats 8000000 in
set_option maxRecDepth 100000 in
theorem c_X0_init (l : Launch) (D : va_G) (G : Nat → ClassId) (sz : Nat) (a_p0 : Nat) (a_p1 : Nat) : Met l yX0_init wsX0_init rm_X0_init (pc_X0_init D G sz a_p0 a_p1) (va_Qv (fun (_ : Unit) => True) (fun _ t => va_P D vwCl [(a_p0, .inr (0, [.ref a_p1]))] t.heap ∧ va_K D vwCl (tyG G) t ∧ va_D (va_A [(a_p0, .inr (0, [.null]))] sz) [(a_p0, .inr (0, [.ref a_p1]))]) (va_A [(a_p0, .inr (0, [.null]))] sz)) 0 0 (va_A [(a_p0, .inr (0, [.null]))] sz) := by
  refine Met.ofW (cc := cX0_init) (maxL := 2) (ret := none) (by decide) rfl ?_
  intro p e s m args below meth c s₁ B hml hv
  obtain ⟨rfl, hsz, hP, hK, hD0⟩ := hv
  have hx := B.exec
  have hb := B.bytes
  have hr := B.returns
  have hts := atoms_spec (ws := wsX0_init) B.pre
  have hown : s.vm.findClass RX0 = some m.cls := findClass_of_methodNamed B.named
  have hlocks := B.notSynchronized
  have hin : meth.name = "<init>" := (name_of_methodNamed B.named B.method).1
  subst hsz
  have hD := hD0.self (sz := s.heap.size)
  generalize hAe : va_A [(a_p0, .inr (0, [.null]))] s.heap.size = A at hD ⊢
  have hA : ∀ q : Nat, s.heap.size ≤ q → A q := fun q h => by rw [← hAe]; exact Or.inr h
  clear hAe hD0
  have hS : va_S A s.heap s.heap [] := va_S.rf
  have hl := lv_entry ([.ref a_p0, .ref a_p1]) (n := 2) (Nat.le_of_ble_eq_true rfl)
  rw [lg_entry_eq]
  generalize (lg_sl ([.ref a_p0, .ref a_p1]) ++ List.replicate (2 - (lg_sl ([.ref a_p0, .ref a_p1])).length) Slot.unset).toArray = ls at hl ⊢
  have hl : lv_has ls 2 [(0, .ref a_p0), (1, .ref a_p1)] := hl
  refine W_nameQ (fun Q hQ => ?_)
  refine lv_aload_n hx hb dX0_init_0 rfl (lv_at hl 0 rfl) ?_
  refine W.objInit hx hb hown (hts _ mcX0_init_0) (hts _ mcX0_init_1) (hts _ mcX0_init_2) rfl (by rw [hml]; exact hl.1) rfl dX0_init_1 (Nat.le_of_ble_eq_true rfl) (Nat.le_of_ble_eq_true rfl) ?_
  refine W.eq (g2 := F0 m 4 ls []) rfl ?_
  refine lv_aload_n hx hb dX0_init_4 rfl (lv_at hl 0 rfl) ?_
  refine lv_aload_n hx hb dX0_init_5 rfl (lv_at hl 1 rfl) ?_
  refine va_putF (D := D) (ci := 0) (v := .ref a_p1) (ty := .object "LadleKings$Kitchen") (C := RX0) (T := TX0) (N := 1) hx hb hts icX0_init_X0 tyX0 tyX0_ok nmX0 hown hK hP hD hS 0 rfl rfl 0 (by decide) (hts _ mcX0_init_4) (fun _ h9 => h9) rfl hin rfl (by decide +kernel) rfl rfl (Nat.le_of_ble_eq_true rfl) dX0_init_6 (fun H locs hP hD hS => ?_)
  have hP : va_P D vwCl [(a_p0, .inr (0, [.ref a_p1]))] H := hP
  have hD : va_D A [(a_p0, .inr (0, [.ref a_p1]))] := hD
  rw [hQ]
  exact W.vret hx hb hr (fun t ht hW => ⟨⟨(), rfl, trivial, by rw [ht]; exact hP, va_K.moved hW.alike hK, hD⟩, hS.F ht⟩) hS.2.2 dX0_init_9

abbrev rm_X4_init : Room := { frames := 1, cells := 1, slots := 6, locals := 12 }
theorem mcX4_init_0 : Cond.methodLink RX4 3 objectInit ∈ wsX4_init := by decide +kernel
theorem mcX4_init_1 : Cond.instanceMethod objectInit ∈ wsX4_init := by decide +kernel
theorem mcX4_init_2 : Cond.code objectInit ⟨#[0xb1]⟩ 1 none ∈ wsX4_init := by decide +kernel
theorem mcX4_init_3 : Cond.arrayClass .int ∈ wsX4_init := by decide +kernel
theorem icX4_init_X4 : ∀ w ∈ wsX40, w ∈ wsX4_init := by decide +kernel
theorem mcX4_init_5 : Cond.fieldLink RX4 9 "LadleKings$Past" "fitting" "[I" ∈ wsX4_init := by decide +kernel
theorem mcX4_init_6 : Cond.fieldLink RX4 15 "LadleKings$Past" "kitchen" "LLadleKings$Kitchen;" ∈ wsX4_init := by decide +kernel
def pc_X4_init (D : va_G) (G : Nat → ClassId) (sz : Nat) (a_p0 : Nat) (a_p1 : Nat) : Array Value → State → Prop := va_Pc [.ref a_p0, .ref a_p1] (fun U => U.heap.size = sz ∧ va_P D vwCl [(a_p0, .inr (4, [.null, .null]))] U.heap ∧ va_K D vwCl (tyG G) U ∧ va_D (fun _ => True) [(a_p0, .inr (4, [.null, .null]))])
set_option maxHeartbeats 8000000 in
set_option maxRecDepth 100000 in
theorem c_X4_init (l : Launch) (D : va_G) (G : Nat → ClassId) (sz : Nat) (a_p0 : Nat) (a_p1 : Nat) : Met l yX4_init wsX4_init rm_X4_init (pc_X4_init D G sz a_p0 a_p1) (va_Qv (fun (_ : Unit) => True) (fun _ t => ∃ q1 : Nat, va_P D vwCl [(a_p0, .inr (4, [.ref a_p1, .ref q1])), (q1, .inl (G 1, 6, .inl (zA (fun _ => (0 : Int)))))] t.heap ∧ va_K D vwCl (tyG G) t ∧ va_D (va_A [(a_p0, .inr (4, [.null, .null]))] sz) [(a_p0, .inr (4, [.ref a_p1, .ref q1])), (q1, .inl (G 1, 6, .inl (zA (fun _ => (0 : Int)))))]) (va_A [(a_p0, .inr (4, [.null, .null]))] sz)) 1 6 (va_A [(a_p0, .inr (4, [.null, .null]))] sz) := by
  refine Met.ofW (cc := cX4_init) (maxL := 2) (ret := none) (by decide) rfl ?_
  intro p e s m args below meth c s₁ B hml hv
  obtain ⟨rfl, hsz, hP, hK, hD0⟩ := hv
  have hx := B.exec
  have hb := B.bytes
  have hr := B.returns
  have hts := atoms_spec (ws := wsX4_init) B.pre
  have hown : s.vm.findClass RX4 = some m.cls := findClass_of_methodNamed B.named
  have hlocks := B.notSynchronized
  have hin : meth.name = "<init>" := (name_of_methodNamed B.named B.method).1
  subst hsz
  have hD := hD0.self (sz := s.heap.size)
  generalize hAe : va_A [(a_p0, .inr (4, [.null, .null]))] s.heap.size = A at hD ⊢
  have hA : ∀ q : Nat, s.heap.size ≤ q → A q := fun q h => by rw [← hAe]; exact Or.inr h
  clear hAe hD0
  have hS : va_S A s.heap s.heap [] := va_S.rf
  have hl := lv_entry ([.ref a_p0, .ref a_p1]) (n := 2) (Nat.le_of_ble_eq_true rfl)
  rw [lg_entry_eq]
  generalize (lg_sl ([.ref a_p0, .ref a_p1]) ++ List.replicate (2 - (lg_sl ([.ref a_p0, .ref a_p1])).length) Slot.unset).toArray = ls at hl ⊢
  have hl : lv_has ls 2 [(0, .ref a_p0), (1, .ref a_p1)] := hl
  refine W_nameQ (fun Q hQ => ?_)
  refine lv_aload_n hx hb dX4_init_0 rfl (lv_at hl 0 rfl) ?_
  refine W.objInit hx hb hown (hts _ mcX4_init_0) (hts _ mcX4_init_1) (hts _ mcX4_init_2) rfl (by rw [hml]; exact hl.1) rfl dX4_init_1 (Nat.le_of_ble_eq_true rfl) (Nat.le_of_ble_eq_true rfl) ?_
  refine W.eq (g2 := F0 m 4 ls []) rfl ?_
  refine lv_aload_n hx hb dX4_init_4 rfl (lv_at hl 0 rfl) ?_
  refine lv_bipush (v := (Int32.ofInt (6 : Int))) hx hb dX4_init_5 (by decide) ?_
  refine va_newa (atype := .int) (ty := .int) (N' := 6) (a0 := (6, .inl (zA (fun _ => (0 : Int))))) hx hb (hts _ mcX4_init_3) rfl hK hP hD hS hA (fun _ => rfl) (by decide) (by decide) (Nat.le_of_ble_eq_true rfl) (Nat.le_of_ble_eq_true rfl) (Nat.le_of_ble_eq_true rfl) dX4_init_7 (fun q1 cA H hK2 hP hD hS => ?_)
  obtain rfl : G 1 = cA := cA_int hK2 (i := 1) (j := 6) rfl rfl
  clear hK2
  have hP : va_P D vwCl [(a_p0, .inr (4, [.null, .null])), (q1, .inl (G 1, 6, .inl (zA (fun _ => (0 : Int)))))] H := hP
  have hD : va_D A [(a_p0, .inr (4, [.null, .null])), (q1, .inl (G 1, 6, .inl (zA (fun _ => (0 : Int)))))] := hD
  refine va_putF (D := D) (ci := 4) (v := .ref q1) (ty := .array .int) (C := RX4) (T := TX4) (N := 2) hx hb hts icX4_init_X4 tyX4 tyX4_ok nmX4 hown hK hP hD hS 0 rfl rfl 1 (by decide) (hts _ mcX4_init_5) (fun _ h9 => h9) rfl hin rfl (by decide +kernel) rfl rfl (Nat.le_of_ble_eq_true rfl) dX4_init_9 (fun H locs hP hD hS => ?_)
  have hP : va_P D vwCl [(a_p0, .inr (4, [.null, .ref q1])), (q1, .inl (G 1, 6, .inl (zA (fun _ => (0 : Int)))))] H := hP
  have hD : va_D A [(a_p0, .inr (4, [.null, .ref q1])), (q1, .inl (G 1, 6, .inl (zA (fun _ => (0 : Int)))))] := hD
  refine lv_aload_n hx hb dX4_init_12 rfl (lv_at hl 0 rfl) ?_
  refine lv_aload_n hx hb dX4_init_13 rfl (lv_at hl 1 rfl) ?_
  refine va_putF (D := D) (ci := 4) (v := .ref a_p1) (ty := .object "LadleKings$Kitchen") (C := RX4) (T := TX4) (N := 2) hx hb hts icX4_init_X4 tyX4 tyX4_ok nmX4 hown hK hP hD hS 0 rfl rfl 0 (by decide) (hts _ mcX4_init_6) (fun _ h9 => h9) rfl hin rfl (by decide +kernel) rfl rfl (Nat.le_of_ble_eq_true rfl) dX4_init_14 (fun H locs hP hD hS => ?_)
  have hP : va_P D vwCl [(a_p0, .inr (4, [.ref a_p1, .ref q1])), (q1, .inl (G 1, 6, .inl (zA (fun _ => (0 : Int)))))] H := hP
  have hD : va_D A [(a_p0, .inr (4, [.ref a_p1, .ref q1])), (q1, .inl (G 1, 6, .inl (zA (fun _ => (0 : Int)))))] := hD
  rw [hQ]
  exact W.vret hx hb hr (fun t ht hW => ⟨⟨(), rfl, trivial, q1, by rw [ht]; exact hP, va_K.moved hW.alike hK, hD⟩, hS.F ht⟩) hS.2.2 dX4_init_17

abbrev rm_X1_init : Room := { frames := 1, cells := 6, slots := 88, locals := 12 }
theorem mcX1_init_0 : Cond.methodLink RX1 3 objectInit ∈ wsX1_init := by decide +kernel
theorem mcX1_init_1 : Cond.instanceMethod objectInit ∈ wsX1_init := by decide +kernel
theorem mcX1_init_2 : Cond.code objectInit ⟨#[0xb1]⟩ 1 none ∈ wsX1_init := by decide +kernel
theorem mcX1_init_3 : Cond.arrayClass .int ∈ wsX1_init := by decide +kernel
theorem icX1_init_X1 : ∀ w ∈ wsX10, w ∈ wsX1_init := by decide +kernel
theorem mcX1_init_5 : Cond.fieldLink RX1 11 "LadleKings$FairDays" "pots" "[I" ∈ wsX1_init := by decide +kernel
theorem mcX1_init_6 : Cond.fieldLink RX1 15 "LadleKings$FairDays" "sums" "[I" ∈ wsX1_init := by decide +kernel
theorem mcX1_init_7 : Cond.fieldLink RX1 18 "LadleKings$FairDays" "kings" "[I" ∈ wsX1_init := by decide +kernel
theorem mcX1_init_8 : Cond.fieldLink RX1 21 "LadleKings$FairDays" "bones" "[I" ∈ wsX1_init := by decide +kernel
theorem mcX1_init_9 : Cond.fieldLink RX1 24 "LadleKings$FairDays" "row" "[I" ∈ wsX1_init := by decide +kernel
theorem mcX1_init_10 : Cond.fieldLink RX1 27 "LadleKings$FairDays" "bestRow" "[I" ∈ wsX1_init := by decide +kernel
theorem mcX1_init_11 : Cond.fieldLink RX1 30 "LadleKings$FairDays" "days" "I" ∈ wsX1_init := by decide +kernel
theorem mcX1_init_12 : Cond.fieldLink RX1 34 "LadleKings$FairDays" "least" "I" ∈ wsX1_init := by decide +kernel
theorem mcX1_init_13 : Cond.fieldLink RX1 37 "LadleKings$FairDays" "kitchen" "LLadleKings$Kitchen;" ∈ wsX1_init := by decide +kernel
def pc_X1_init (D : va_G) (G : Nat → ClassId) (sz : Nat) (a_p0 : Nat) (a_p1 : Nat) : Array Value → State → Prop := va_Pc [.ref a_p0, .ref a_p1] (fun U => U.heap.size = sz ∧ va_P D vwCl [(a_p0, .inr (1, [.null, .null, .null, .null, .null, .null, .null, .int (Int32.ofInt (0 : Int)), .int (Int32.ofInt (0 : Int))]))] U.heap ∧ va_K D vwCl (tyG G) U ∧ va_D (fun _ => True) [(a_p0, .inr (1, [.null, .null, .null, .null, .null, .null, .null, .int (Int32.ofInt (0 : Int)), .int (Int32.ofInt (0 : Int))]))])
set_option maxHeartbeats 8000000 in
set_option maxRecDepth 100000 in
theorem c_X1_init (l : Launch) (D : va_G) (G : Nat → ClassId) (sz : Nat) (a_p0 : Nat) (a_p1 : Nat) : Met l yX1_init wsX1_init rm_X1_init (pc_X1_init D G sz a_p0 a_p1) (va_Qv (fun (_ : Unit) => True) (fun _ t => ∃ q1 q2 q3 q4 q5 q6 : Nat, va_P D vwCl [(a_p0, .inr (1, [.ref a_p1, .ref q1, .ref q2, .ref q3, .ref q4, .ref q5, .ref q6, .int (Int32.ofInt (0 : Int)), .int (Int32.ofInt (0 : Int))])), (q1, .inl (G 1, 35, .inl (zA (fun _ => (0 : Int))))), (q2, .inl (G 1, 35, .inl (zA (fun _ => (0 : Int))))), (q3, .inl (G 1, 5, .inl (zA (fun _ => (0 : Int))))), (q4, .inl (G 1, 5, .inl (zA (fun _ => (0 : Int))))), (q5, .inl (G 1, 4, .inl (zA (fun _ => (0 : Int))))), (q6, .inl (G 1, 4, .inl (zA (fun _ => (0 : Int)))))] t.heap ∧ va_K D vwCl (tyG G) t ∧ va_D (va_A [(a_p0, .inr (1, [.null, .null, .null, .null, .null, .null, .null, .int (Int32.ofInt (0 : Int)), .int (Int32.ofInt (0 : Int))]))] sz) [(a_p0, .inr (1, [.ref a_p1, .ref q1, .ref q2, .ref q3, .ref q4, .ref q5, .ref q6, .int (Int32.ofInt (0 : Int)), .int (Int32.ofInt (0 : Int))])), (q1, .inl (G 1, 35, .inl (zA (fun _ => (0 : Int))))), (q2, .inl (G 1, 35, .inl (zA (fun _ => (0 : Int))))), (q3, .inl (G 1, 5, .inl (zA (fun _ => (0 : Int))))), (q4, .inl (G 1, 5, .inl (zA (fun _ => (0 : Int))))), (q5, .inl (G 1, 4, .inl (zA (fun _ => (0 : Int))))), (q6, .inl (G 1, 4, .inl (zA (fun _ => (0 : Int)))))]) (va_A [(a_p0, .inr (1, [.null, .null, .null, .null, .null, .null, .null, .int (Int32.ofInt (0 : Int)), .int (Int32.ofInt (0 : Int))]))] sz)) 6 88 (va_A [(a_p0, .inr (1, [.null, .null, .null, .null, .null, .null, .null, .int (Int32.ofInt (0 : Int)), .int (Int32.ofInt (0 : Int))]))] sz) := by
  refine Met.ofW (cc := cX1_init) (maxL := 2) (ret := none) (by decide) rfl ?_
  intro p e s m args below meth c s₁ B hml hv
  obtain ⟨rfl, hsz, hP, hK, hD0⟩ := hv
  have hx := B.exec
  have hb := B.bytes
  have hr := B.returns
  have hts := atoms_spec (ws := wsX1_init) B.pre
  have hown : s.vm.findClass RX1 = some m.cls := findClass_of_methodNamed B.named
  have hlocks := B.notSynchronized
  have hin : meth.name = "<init>" := (name_of_methodNamed B.named B.method).1
  subst hsz
  have hD := hD0.self (sz := s.heap.size)
  generalize hAe : va_A [(a_p0, .inr (1, [.null, .null, .null, .null, .null, .null, .null, .int (Int32.ofInt (0 : Int)), .int (Int32.ofInt (0 : Int))]))] s.heap.size = A at hD ⊢
  have hA : ∀ q : Nat, s.heap.size ≤ q → A q := fun q h => by rw [← hAe]; exact Or.inr h
  clear hAe hD0
  have hS : va_S A s.heap s.heap [] := va_S.rf
  have hl := lv_entry ([.ref a_p0, .ref a_p1]) (n := 2) (Nat.le_of_ble_eq_true rfl)
  rw [lg_entry_eq]
  generalize (lg_sl ([.ref a_p0, .ref a_p1]) ++ List.replicate (2 - (lg_sl ([.ref a_p0, .ref a_p1])).length) Slot.unset).toArray = ls at hl ⊢
  have hl : lv_has ls 2 [(0, .ref a_p0), (1, .ref a_p1)] := hl
  refine W_nameQ (fun Q hQ => ?_)
  refine lv_aload_n hx hb dX1_init_0 rfl (lv_at hl 0 rfl) ?_
  refine W.objInit hx hb hown (hts _ mcX1_init_0) (hts _ mcX1_init_1) (hts _ mcX1_init_2) rfl (by rw [hml]; exact hl.1) rfl dX1_init_1 (Nat.le_of_ble_eq_true rfl) (Nat.le_of_ble_eq_true rfl) ?_
  refine W.eq (g2 := F0 m 4 ls []) rfl ?_
  refine lv_aload_n hx hb dX1_init_4 rfl (lv_at hl 0 rfl) ?_
  refine lv_bipush (v := (Int32.ofInt (35 : Int))) hx hb dX1_init_5 (by decide) ?_
  refine va_newa (atype := .int) (ty := .int) (N' := 35) (a0 := (35, .inl (zA (fun _ => (0 : Int))))) hx hb (hts _ mcX1_init_3) rfl hK hP hD hS hA (fun _ => rfl) (by decide) (by decide) (Nat.le_of_ble_eq_true rfl) (Nat.le_of_ble_eq_true rfl) (Nat.le_of_ble_eq_true rfl) dX1_init_7 (fun q1 cA H hK2 hP hD hS => ?_)
  obtain rfl : G 1 = cA := cA_int hK2 (i := 1) (j := 6) rfl rfl
  clear hK2
  have hP : va_P D vwCl [(a_p0, .inr (1, [.null, .null, .null, .null, .null, .null, .null, .int (Int32.ofInt (0 : Int)), .int (Int32.ofInt (0 : Int))])), (q1, .inl (G 1, 35, .inl (zA (fun _ => (0 : Int)))))] H := hP
  have hD : va_D A [(a_p0, .inr (1, [.null, .null, .null, .null, .null, .null, .null, .int (Int32.ofInt (0 : Int)), .int (Int32.ofInt (0 : Int))])), (q1, .inl (G 1, 35, .inl (zA (fun _ => (0 : Int)))))] := hD
  refine va_putF (D := D) (ci := 1) (v := .ref q1) (ty := .array .int) (C := RX1) (T := TX1) (N := 9) hx hb hts icX1_init_X1 tyX1 tyX1_ok nmX1 hown hK hP hD hS 0 rfl rfl 1 (by decide) (hts _ mcX1_init_5) (fun _ h9 => h9) rfl hin rfl (by decide +kernel) rfl rfl (Nat.le_of_ble_eq_true rfl) dX1_init_9 (fun H locs hP hD hS => ?_)
  have hP : va_P D vwCl [(a_p0, .inr (1, [.null, .ref q1, .null, .null, .null, .null, .null, .int (Int32.ofInt (0 : Int)), .int (Int32.ofInt (0 : Int))])), (q1, .inl (G 1, 35, .inl (zA (fun _ => (0 : Int)))))] H := hP
  have hD : va_D A [(a_p0, .inr (1, [.null, .ref q1, .null, .null, .null, .null, .null, .int (Int32.ofInt (0 : Int)), .int (Int32.ofInt (0 : Int))])), (q1, .inl (G 1, 35, .inl (zA (fun _ => (0 : Int)))))] := hD
  refine lv_aload_n hx hb dX1_init_12 rfl (lv_at hl 0 rfl) ?_
  refine lv_bipush (v := (Int32.ofInt (35 : Int))) hx hb dX1_init_13 (by decide) ?_
  refine va_newa (atype := .int) (ty := .int) (N' := 35) (a0 := (35, .inl (zA (fun _ => (0 : Int))))) hx hb (hts _ mcX1_init_3) rfl hK hP hD hS hA (fun _ => rfl) (by decide) (by decide) (Nat.le_of_ble_eq_true rfl) (Nat.le_of_ble_eq_true rfl) (Nat.le_of_ble_eq_true rfl) dX1_init_15 (fun q2 cA H hK2 hP hD hS => ?_)
  obtain rfl : G 1 = cA := cA_int hK2 (i := 1) (j := 6) rfl rfl
  clear hK2
  have hP : va_P D vwCl [(a_p0, .inr (1, [.null, .ref q1, .null, .null, .null, .null, .null, .int (Int32.ofInt (0 : Int)), .int (Int32.ofInt (0 : Int))])), (q1, .inl (G 1, 35, .inl (zA (fun _ => (0 : Int))))), (q2, .inl (G 1, 35, .inl (zA (fun _ => (0 : Int)))))] H := hP
  have hD : va_D A [(a_p0, .inr (1, [.null, .ref q1, .null, .null, .null, .null, .null, .int (Int32.ofInt (0 : Int)), .int (Int32.ofInt (0 : Int))])), (q1, .inl (G 1, 35, .inl (zA (fun _ => (0 : Int))))), (q2, .inl (G 1, 35, .inl (zA (fun _ => (0 : Int)))))] := hD
  refine va_putF (D := D) (ci := 1) (v := .ref q2) (ty := .array .int) (C := RX1) (T := TX1) (N := 9) hx hb hts icX1_init_X1 tyX1 tyX1_ok nmX1 hown hK hP hD hS 0 rfl rfl 2 (by decide) (hts _ mcX1_init_6) (fun _ h9 => h9) rfl hin rfl (by decide +kernel) rfl rfl (Nat.le_of_ble_eq_true rfl) dX1_init_17 (fun H locs hP hD hS => ?_)
  have hP : va_P D vwCl [(a_p0, .inr (1, [.null, .ref q1, .ref q2, .null, .null, .null, .null, .int (Int32.ofInt (0 : Int)), .int (Int32.ofInt (0 : Int))])), (q1, .inl (G 1, 35, .inl (zA (fun _ => (0 : Int))))), (q2, .inl (G 1, 35, .inl (zA (fun _ => (0 : Int)))))] H := hP
  have hD : va_D A [(a_p0, .inr (1, [.null, .ref q1, .ref q2, .null, .null, .null, .null, .int (Int32.ofInt (0 : Int)), .int (Int32.ofInt (0 : Int))])), (q1, .inl (G 1, 35, .inl (zA (fun _ => (0 : Int))))), (q2, .inl (G 1, 35, .inl (zA (fun _ => (0 : Int)))))] := hD
  refine lv_aload_n hx hb dX1_init_20 rfl (lv_at hl 0 rfl) ?_
  refine lv_iconst (v := (Int32.ofInt (5 : Int))) hx hb dX1_init_21 (by decide) ?_
  refine va_newa (atype := .int) (ty := .int) (N' := 5) (a0 := (5, .inl (zA (fun _ => (0 : Int))))) hx hb (hts _ mcX1_init_3) rfl hK hP hD hS hA (fun _ => rfl) (by decide) (by decide) (Nat.le_of_ble_eq_true rfl) (Nat.le_of_ble_eq_true rfl) (Nat.le_of_ble_eq_true rfl) dX1_init_22 (fun q3 cA H hK2 hP hD hS => ?_)
  obtain rfl : G 1 = cA := cA_int hK2 (i := 1) (j := 6) rfl rfl
  clear hK2
  have hP : va_P D vwCl [(a_p0, .inr (1, [.null, .ref q1, .ref q2, .null, .null, .null, .null, .int (Int32.ofInt (0 : Int)), .int (Int32.ofInt (0 : Int))])), (q1, .inl (G 1, 35, .inl (zA (fun _ => (0 : Int))))), (q2, .inl (G 1, 35, .inl (zA (fun _ => (0 : Int))))), (q3, .inl (G 1, 5, .inl (zA (fun _ => (0 : Int)))))] H := hP
  have hD : va_D A [(a_p0, .inr (1, [.null, .ref q1, .ref q2, .null, .null, .null, .null, .int (Int32.ofInt (0 : Int)), .int (Int32.ofInt (0 : Int))])), (q1, .inl (G 1, 35, .inl (zA (fun _ => (0 : Int))))), (q2, .inl (G 1, 35, .inl (zA (fun _ => (0 : Int))))), (q3, .inl (G 1, 5, .inl (zA (fun _ => (0 : Int)))))] := hD
  refine va_putF (D := D) (ci := 1) (v := .ref q3) (ty := .array .int) (C := RX1) (T := TX1) (N := 9) hx hb hts icX1_init_X1 tyX1 tyX1_ok nmX1 hown hK hP hD hS 0 rfl rfl 3 (by decide) (hts _ mcX1_init_7) (fun _ h9 => h9) rfl hin rfl (by decide +kernel) rfl rfl (Nat.le_of_ble_eq_true rfl) dX1_init_24 (fun H locs hP hD hS => ?_)
  have hP : va_P D vwCl [(a_p0, .inr (1, [.null, .ref q1, .ref q2, .ref q3, .null, .null, .null, .int (Int32.ofInt (0 : Int)), .int (Int32.ofInt (0 : Int))])), (q1, .inl (G 1, 35, .inl (zA (fun _ => (0 : Int))))), (q2, .inl (G 1, 35, .inl (zA (fun _ => (0 : Int))))), (q3, .inl (G 1, 5, .inl (zA (fun _ => (0 : Int)))))] H := hP
  have hD : va_D A [(a_p0, .inr (1, [.null, .ref q1, .ref q2, .ref q3, .null, .null, .null, .int (Int32.ofInt (0 : Int)), .int (Int32.ofInt (0 : Int))])), (q1, .inl (G 1, 35, .inl (zA (fun _ => (0 : Int))))), (q2, .inl (G 1, 35, .inl (zA (fun _ => (0 : Int))))), (q3, .inl (G 1, 5, .inl (zA (fun _ => (0 : Int)))))] := hD
  refine lv_aload_n hx hb dX1_init_27 rfl (lv_at hl 0 rfl) ?_
  refine lv_iconst (v := (Int32.ofInt (5 : Int))) hx hb dX1_init_28 (by decide) ?_
  refine va_newa (atype := .int) (ty := .int) (N' := 5) (a0 := (5, .inl (zA (fun _ => (0 : Int))))) hx hb (hts _ mcX1_init_3) rfl hK hP hD hS hA (fun _ => rfl) (by decide) (by decide) (Nat.le_of_ble_eq_true rfl) (Nat.le_of_ble_eq_true rfl) (Nat.le_of_ble_eq_true rfl) dX1_init_29 (fun q4 cA H hK2 hP hD hS => ?_)
  obtain rfl : G 1 = cA := cA_int hK2 (i := 1) (j := 6) rfl rfl
  clear hK2
  have hP : va_P D vwCl [(a_p0, .inr (1, [.null, .ref q1, .ref q2, .ref q3, .null, .null, .null, .int (Int32.ofInt (0 : Int)), .int (Int32.ofInt (0 : Int))])), (q1, .inl (G 1, 35, .inl (zA (fun _ => (0 : Int))))), (q2, .inl (G 1, 35, .inl (zA (fun _ => (0 : Int))))), (q3, .inl (G 1, 5, .inl (zA (fun _ => (0 : Int))))), (q4, .inl (G 1, 5, .inl (zA (fun _ => (0 : Int)))))] H := hP
  have hD : va_D A [(a_p0, .inr (1, [.null, .ref q1, .ref q2, .ref q3, .null, .null, .null, .int (Int32.ofInt (0 : Int)), .int (Int32.ofInt (0 : Int))])), (q1, .inl (G 1, 35, .inl (zA (fun _ => (0 : Int))))), (q2, .inl (G 1, 35, .inl (zA (fun _ => (0 : Int))))), (q3, .inl (G 1, 5, .inl (zA (fun _ => (0 : Int))))), (q4, .inl (G 1, 5, .inl (zA (fun _ => (0 : Int)))))] := hD
  refine va_putF (D := D) (ci := 1) (v := .ref q4) (ty := .array .int) (C := RX1) (T := TX1) (N := 9) hx hb hts icX1_init_X1 tyX1 tyX1_ok nmX1 hown hK hP hD hS 0 rfl rfl 4 (by decide) (hts _ mcX1_init_8) (fun _ h9 => h9) rfl hin rfl (by decide +kernel) rfl rfl (Nat.le_of_ble_eq_true rfl) dX1_init_31 (fun H locs hP hD hS => ?_)
  have hP : va_P D vwCl [(a_p0, .inr (1, [.null, .ref q1, .ref q2, .ref q3, .ref q4, .null, .null, .int (Int32.ofInt (0 : Int)), .int (Int32.ofInt (0 : Int))])), (q1, .inl (G 1, 35, .inl (zA (fun _ => (0 : Int))))), (q2, .inl (G 1, 35, .inl (zA (fun _ => (0 : Int))))), (q3, .inl (G 1, 5, .inl (zA (fun _ => (0 : Int))))), (q4, .inl (G 1, 5, .inl (zA (fun _ => (0 : Int)))))] H := hP
  have hD : va_D A [(a_p0, .inr (1, [.null, .ref q1, .ref q2, .ref q3, .ref q4, .null, .null, .int (Int32.ofInt (0 : Int)), .int (Int32.ofInt (0 : Int))])), (q1, .inl (G 1, 35, .inl (zA (fun _ => (0 : Int))))), (q2, .inl (G 1, 35, .inl (zA (fun _ => (0 : Int))))), (q3, .inl (G 1, 5, .inl (zA (fun _ => (0 : Int))))), (q4, .inl (G 1, 5, .inl (zA (fun _ => (0 : Int)))))] := hD
  refine lv_aload_n hx hb dX1_init_34 rfl (lv_at hl 0 rfl) ?_
  refine lv_iconst (v := (Int32.ofInt (4 : Int))) hx hb dX1_init_35 (by decide) ?_
  refine va_newa (atype := .int) (ty := .int) (N' := 4) (a0 := (4, .inl (zA (fun _ => (0 : Int))))) hx hb (hts _ mcX1_init_3) rfl hK hP hD hS hA (fun _ => rfl) (by decide) (by decide) (Nat.le_of_ble_eq_true rfl) (Nat.le_of_ble_eq_true rfl) (Nat.le_of_ble_eq_true rfl) dX1_init_36 (fun q5 cA H hK2 hP hD hS => ?_)
  obtain rfl : G 1 = cA := cA_int hK2 (i := 1) (j := 6) rfl rfl
  clear hK2
  have hP : va_P D vwCl [(a_p0, .inr (1, [.null, .ref q1, .ref q2, .ref q3, .ref q4, .null, .null, .int (Int32.ofInt (0 : Int)), .int (Int32.ofInt (0 : Int))])), (q1, .inl (G 1, 35, .inl (zA (fun _ => (0 : Int))))), (q2, .inl (G 1, 35, .inl (zA (fun _ => (0 : Int))))), (q3, .inl (G 1, 5, .inl (zA (fun _ => (0 : Int))))), (q4, .inl (G 1, 5, .inl (zA (fun _ => (0 : Int))))), (q5, .inl (G 1, 4, .inl (zA (fun _ => (0 : Int)))))] H := hP
  have hD : va_D A [(a_p0, .inr (1, [.null, .ref q1, .ref q2, .ref q3, .ref q4, .null, .null, .int (Int32.ofInt (0 : Int)), .int (Int32.ofInt (0 : Int))])), (q1, .inl (G 1, 35, .inl (zA (fun _ => (0 : Int))))), (q2, .inl (G 1, 35, .inl (zA (fun _ => (0 : Int))))), (q3, .inl (G 1, 5, .inl (zA (fun _ => (0 : Int))))), (q4, .inl (G 1, 5, .inl (zA (fun _ => (0 : Int))))), (q5, .inl (G 1, 4, .inl (zA (fun _ => (0 : Int)))))] := hD
  refine va_putF (D := D) (ci := 1) (v := .ref q5) (ty := .array .int) (C := RX1) (T := TX1) (N := 9) hx hb hts icX1_init_X1 tyX1 tyX1_ok nmX1 hown hK hP hD hS 0 rfl rfl 5 (by decide) (hts _ mcX1_init_9) (fun _ h9 => h9) rfl hin rfl (by decide +kernel) rfl rfl (Nat.le_of_ble_eq_true rfl) dX1_init_38 (fun H locs hP hD hS => ?_)
  have hP : va_P D vwCl [(a_p0, .inr (1, [.null, .ref q1, .ref q2, .ref q3, .ref q4, .ref q5, .null, .int (Int32.ofInt (0 : Int)), .int (Int32.ofInt (0 : Int))])), (q1, .inl (G 1, 35, .inl (zA (fun _ => (0 : Int))))), (q2, .inl (G 1, 35, .inl (zA (fun _ => (0 : Int))))), (q3, .inl (G 1, 5, .inl (zA (fun _ => (0 : Int))))), (q4, .inl (G 1, 5, .inl (zA (fun _ => (0 : Int))))), (q5, .inl (G 1, 4, .inl (zA (fun _ => (0 : Int)))))] H := hP
  have hD : va_D A [(a_p0, .inr (1, [.null, .ref q1, .ref q2, .ref q3, .ref q4, .ref q5, .null, .int (Int32.ofInt (0 : Int)), .int (Int32.ofInt (0 : Int))])), (q1, .inl (G 1, 35, .inl (zA (fun _ => (0 : Int))))), (q2, .inl (G 1, 35, .inl (zA (fun _ => (0 : Int))))), (q3, .inl (G 1, 5, .inl (zA (fun _ => (0 : Int))))), (q4, .inl (G 1, 5, .inl (zA (fun _ => (0 : Int))))), (q5, .inl (G 1, 4, .inl (zA (fun _ => (0 : Int)))))] := hD
  refine lv_aload_n hx hb dX1_init_41 rfl (lv_at hl 0 rfl) ?_
  refine lv_iconst (v := (Int32.ofInt (4 : Int))) hx hb dX1_init_42 (by decide) ?_
  refine va_newa (atype := .int) (ty := .int) (N' := 4) (a0 := (4, .inl (zA (fun _ => (0 : Int))))) hx hb (hts _ mcX1_init_3) rfl hK hP hD hS hA (fun _ => rfl) (by decide) (by decide) (Nat.le_of_ble_eq_true rfl) (Nat.le_of_ble_eq_true rfl) (Nat.le_of_ble_eq_true rfl) dX1_init_43 (fun q6 cA H hK2 hP hD hS => ?_)
  obtain rfl : G 1 = cA := cA_int hK2 (i := 1) (j := 6) rfl rfl
  clear hK2
  have hP : va_P D vwCl [(a_p0, .inr (1, [.null, .ref q1, .ref q2, .ref q3, .ref q4, .ref q5, .null, .int (Int32.ofInt (0 : Int)), .int (Int32.ofInt (0 : Int))])), (q1, .inl (G 1, 35, .inl (zA (fun _ => (0 : Int))))), (q2, .inl (G 1, 35, .inl (zA (fun _ => (0 : Int))))), (q3, .inl (G 1, 5, .inl (zA (fun _ => (0 : Int))))), (q4, .inl (G 1, 5, .inl (zA (fun _ => (0 : Int))))), (q5, .inl (G 1, 4, .inl (zA (fun _ => (0 : Int))))), (q6, .inl (G 1, 4, .inl (zA (fun _ => (0 : Int)))))] H := hP
  have hD : va_D A [(a_p0, .inr (1, [.null, .ref q1, .ref q2, .ref q3, .ref q4, .ref q5, .null, .int (Int32.ofInt (0 : Int)), .int (Int32.ofInt (0 : Int))])), (q1, .inl (G 1, 35, .inl (zA (fun _ => (0 : Int))))), (q2, .inl (G 1, 35, .inl (zA (fun _ => (0 : Int))))), (q3, .inl (G 1, 5, .inl (zA (fun _ => (0 : Int))))), (q4, .inl (G 1, 5, .inl (zA (fun _ => (0 : Int))))), (q5, .inl (G 1, 4, .inl (zA (fun _ => (0 : Int))))), (q6, .inl (G 1, 4, .inl (zA (fun _ => (0 : Int)))))] := hD
  refine va_putF (D := D) (ci := 1) (v := .ref q6) (ty := .array .int) (C := RX1) (T := TX1) (N := 9) hx hb hts icX1_init_X1 tyX1 tyX1_ok nmX1 hown hK hP hD hS 0 rfl rfl 6 (by decide) (hts _ mcX1_init_10) (fun _ h9 => h9) rfl hin rfl (by decide +kernel) rfl rfl (Nat.le_of_ble_eq_true rfl) dX1_init_45 (fun H locs hP hD hS => ?_)
  have hP : va_P D vwCl [(a_p0, .inr (1, [.null, .ref q1, .ref q2, .ref q3, .ref q4, .ref q5, .ref q6, .int (Int32.ofInt (0 : Int)), .int (Int32.ofInt (0 : Int))])), (q1, .inl (G 1, 35, .inl (zA (fun _ => (0 : Int))))), (q2, .inl (G 1, 35, .inl (zA (fun _ => (0 : Int))))), (q3, .inl (G 1, 5, .inl (zA (fun _ => (0 : Int))))), (q4, .inl (G 1, 5, .inl (zA (fun _ => (0 : Int))))), (q5, .inl (G 1, 4, .inl (zA (fun _ => (0 : Int))))), (q6, .inl (G 1, 4, .inl (zA (fun _ => (0 : Int)))))] H := hP
  have hD : va_D A [(a_p0, .inr (1, [.null, .ref q1, .ref q2, .ref q3, .ref q4, .ref q5, .ref q6, .int (Int32.ofInt (0 : Int)), .int (Int32.ofInt (0 : Int))])), (q1, .inl (G 1, 35, .inl (zA (fun _ => (0 : Int))))), (q2, .inl (G 1, 35, .inl (zA (fun _ => (0 : Int))))), (q3, .inl (G 1, 5, .inl (zA (fun _ => (0 : Int))))), (q4, .inl (G 1, 5, .inl (zA (fun _ => (0 : Int))))), (q5, .inl (G 1, 4, .inl (zA (fun _ => (0 : Int))))), (q6, .inl (G 1, 4, .inl (zA (fun _ => (0 : Int)))))] := hD
  refine lv_aload_n hx hb dX1_init_48 rfl (lv_at hl 0 rfl) ?_
  refine lv_iconst (v := (Int32.ofInt (0 : Int))) hx hb dX1_init_49 (by decide) ?_
  refine va_put (D := D) (ci := 1) (v := .int (Int32.ofInt (0 : Int))) (ty := .int) (C := RX1) (T := TX1) (N := 9) hx hb hts icX1_init_X1 tyX1 tyX1_ok nmX1 hown hK hP hD hS 0 rfl rfl 7 (by decide) (hts _ mcX1_init_11) (fun _ h9 => h9) rfl (by decide +kernel) rfl rfl (Nat.le_of_ble_eq_true rfl) dX1_init_50 (fun H locs hP hD hS => ?_)
  have hP : va_P D vwCl [(a_p0, .inr (1, [.null, .ref q1, .ref q2, .ref q3, .ref q4, .ref q5, .ref q6, .int (Int32.ofInt (0 : Int)), .int (Int32.ofInt (0 : Int))])), (q1, .inl (G 1, 35, .inl (zA (fun _ => (0 : Int))))), (q2, .inl (G 1, 35, .inl (zA (fun _ => (0 : Int))))), (q3, .inl (G 1, 5, .inl (zA (fun _ => (0 : Int))))), (q4, .inl (G 1, 5, .inl (zA (fun _ => (0 : Int))))), (q5, .inl (G 1, 4, .inl (zA (fun _ => (0 : Int))))), (q6, .inl (G 1, 4, .inl (zA (fun _ => (0 : Int)))))] H := hP
  have hD : va_D A [(a_p0, .inr (1, [.null, .ref q1, .ref q2, .ref q3, .ref q4, .ref q5, .ref q6, .int (Int32.ofInt (0 : Int)), .int (Int32.ofInt (0 : Int))])), (q1, .inl (G 1, 35, .inl (zA (fun _ => (0 : Int))))), (q2, .inl (G 1, 35, .inl (zA (fun _ => (0 : Int))))), (q3, .inl (G 1, 5, .inl (zA (fun _ => (0 : Int))))), (q4, .inl (G 1, 5, .inl (zA (fun _ => (0 : Int))))), (q5, .inl (G 1, 4, .inl (zA (fun _ => (0 : Int))))), (q6, .inl (G 1, 4, .inl (zA (fun _ => (0 : Int)))))] := hD
  refine lv_aload_n hx hb dX1_init_53 rfl (lv_at hl 0 rfl) ?_
  refine lv_iconst (v := (Int32.ofInt (0 : Int))) hx hb dX1_init_54 (by decide) ?_
  refine va_put (D := D) (ci := 1) (v := .int (Int32.ofInt (0 : Int))) (ty := .int) (C := RX1) (T := TX1) (N := 9) hx hb hts icX1_init_X1 tyX1 tyX1_ok nmX1 hown hK hP hD hS 0 rfl rfl 8 (by decide) (hts _ mcX1_init_12) (fun _ h9 => h9) rfl (by decide +kernel) rfl rfl (Nat.le_of_ble_eq_true rfl) dX1_init_55 (fun H locs hP hD hS => ?_)
  have hP : va_P D vwCl [(a_p0, .inr (1, [.null, .ref q1, .ref q2, .ref q3, .ref q4, .ref q5, .ref q6, .int (Int32.ofInt (0 : Int)), .int (Int32.ofInt (0 : Int))])), (q1, .inl (G 1, 35, .inl (zA (fun _ => (0 : Int))))), (q2, .inl (G 1, 35, .inl (zA (fun _ => (0 : Int))))), (q3, .inl (G 1, 5, .inl (zA (fun _ => (0 : Int))))), (q4, .inl (G 1, 5, .inl (zA (fun _ => (0 : Int))))), (q5, .inl (G 1, 4, .inl (zA (fun _ => (0 : Int))))), (q6, .inl (G 1, 4, .inl (zA (fun _ => (0 : Int)))))] H := hP
  have hD : va_D A [(a_p0, .inr (1, [.null, .ref q1, .ref q2, .ref q3, .ref q4, .ref q5, .ref q6, .int (Int32.ofInt (0 : Int)), .int (Int32.ofInt (0 : Int))])), (q1, .inl (G 1, 35, .inl (zA (fun _ => (0 : Int))))), (q2, .inl (G 1, 35, .inl (zA (fun _ => (0 : Int))))), (q3, .inl (G 1, 5, .inl (zA (fun _ => (0 : Int))))), (q4, .inl (G 1, 5, .inl (zA (fun _ => (0 : Int))))), (q5, .inl (G 1, 4, .inl (zA (fun _ => (0 : Int))))), (q6, .inl (G 1, 4, .inl (zA (fun _ => (0 : Int)))))] := hD
  refine lv_aload_n hx hb dX1_init_58 rfl (lv_at hl 0 rfl) ?_
  refine lv_aload_n hx hb dX1_init_59 rfl (lv_at hl 1 rfl) ?_
  refine va_putF (D := D) (ci := 1) (v := .ref a_p1) (ty := .object "LadleKings$Kitchen") (C := RX1) (T := TX1) (N := 9) hx hb hts icX1_init_X1 tyX1 tyX1_ok nmX1 hown hK hP hD hS 0 rfl rfl 0 (by decide) (hts _ mcX1_init_13) (fun _ h9 => h9) rfl hin rfl (by decide +kernel) rfl rfl (Nat.le_of_ble_eq_true rfl) dX1_init_60 (fun H locs hP hD hS => ?_)
  have hP : va_P D vwCl [(a_p0, .inr (1, [.ref a_p1, .ref q1, .ref q2, .ref q3, .ref q4, .ref q5, .ref q6, .int (Int32.ofInt (0 : Int)), .int (Int32.ofInt (0 : Int))])), (q1, .inl (G 1, 35, .inl (zA (fun _ => (0 : Int))))), (q2, .inl (G 1, 35, .inl (zA (fun _ => (0 : Int))))), (q3, .inl (G 1, 5, .inl (zA (fun _ => (0 : Int))))), (q4, .inl (G 1, 5, .inl (zA (fun _ => (0 : Int))))), (q5, .inl (G 1, 4, .inl (zA (fun _ => (0 : Int))))), (q6, .inl (G 1, 4, .inl (zA (fun _ => (0 : Int)))))] H := hP
  have hD : va_D A [(a_p0, .inr (1, [.ref a_p1, .ref q1, .ref q2, .ref q3, .ref q4, .ref q5, .ref q6, .int (Int32.ofInt (0 : Int)), .int (Int32.ofInt (0 : Int))])), (q1, .inl (G 1, 35, .inl (zA (fun _ => (0 : Int))))), (q2, .inl (G 1, 35, .inl (zA (fun _ => (0 : Int))))), (q3, .inl (G 1, 5, .inl (zA (fun _ => (0 : Int))))), (q4, .inl (G 1, 5, .inl (zA (fun _ => (0 : Int))))), (q5, .inl (G 1, 4, .inl (zA (fun _ => (0 : Int))))), (q6, .inl (G 1, 4, .inl (zA (fun _ => (0 : Int)))))] := hD
  rw [hQ]
  exact W.vret hx hb hr (fun t ht hW => ⟨⟨(), rfl, trivial, q1, q2, q3, q4, q5, q6, by rw [ht]; exact hP, va_K.moved hW.alike hK, hD⟩, hS.F ht⟩) hS.2.2 dX1_init_63

abbrev rm_X10_init : Room := { frames := 2, cells := 13, slots := 114, locals := 43 }
theorem mcX10_init_0 : Cond.methodLink RX10 3 objectInit ∈ wsX10_init := by decide +kernel
theorem mcX10_init_1 : Cond.instanceMethod objectInit ∈ wsX10_init := by decide +kernel
theorem mcX10_init_2 : Cond.code objectInit ⟨#[0xb1]⟩ 1 none ∈ wsX10_init := by decide +kernel
theorem icX10_init_X6 : ∀ w ∈ wsX60, w ∈ wsX10_init := by decide +kernel
theorem mcX10_init_4 : Cond.classLink RX10 9 RX6 ∈ wsX10_init := by decide +kernel
theorem mcX10_init_5 : Cond.instantiable RX6 7 ∈ wsX10_init := by decide +kernel
theorem mcX10_init_6 : Cond.initialized RX6 ∈ wsX10_init := by decide +kernel
theorem mcX10_init_7 : Cond.instanceMethod yX6_init ∈ wsX10_init := by decide +kernel
theorem icX10_init_X10 : ∀ w ∈ wsX100, w ∈ wsX10_init := by decide +kernel
theorem mcX10_init_9 : Cond.fieldLink RX10 12 "LadleKings$TextReader" "rules" "LLadleKings$Rules;" ∈ wsX10_init := by decide +kernel
theorem icX10_init_X8 : ∀ w ∈ wsX80, w ∈ wsX10_init := by decide +kernel
theorem mcX10_init_11 : Cond.classLink RX10 18 RX8 ∈ wsX10_init := by decide +kernel
theorem mcX10_init_12 : Cond.instantiable RX8 9 ∈ wsX10_init := by decide +kernel
theorem mcX10_init_13 : Cond.initialized RX8 ∈ wsX10_init := by decide +kernel
theorem mcX10_init_14 : Cond.methodLink RX10 20 yX8_init ∈ wsX10_init := by decide +kernel
theorem mcX10_init_15 : Cond.instanceMethod yX8_init ∈ wsX10_init := by decide +kernel
theorem mcX10_init_16 : Cond.fieldLink RX10 21 "LadleKings$TextReader" "state" "LLadleKings$State;" ∈ wsX10_init := by decide +kernel
theorem mcX10_init_17 : Cond.fieldLink RX10 25 "LadleKings$TextReader" "faultFound" "I" ∈ wsX10_init := by decide +kernel
theorem mcX10_init_18 : Cond.fieldLink RX10 29 "LadleKings$TextReader" "faultPlace" "I" ∈ wsX10_init := by decide +kernel
theorem mcX10_init_19 : Cond.fieldLink RX10 32 "LadleKings$TextReader" "lines" "I" ∈ wsX10_init := by decide +kernel
theorem mcX10_init_20 : Cond.fieldLink RX10 35 "LadleKings$TextReader" "met" "I" ∈ wsX10_init := by decide +kernel
theorem mcX10_init_21 : Cond.fieldLink RX10 38 "LadleKings$TextReader" "greatest" "I" ∈ wsX10_init := by decide +kernel
theorem mcX10_init_22 : Cond.arrayClass .int ∈ wsX10_init := by decide +kernel
theorem mcX10_init_23 : Cond.fieldLink RX10 41 "LadleKings$TextReader" "numbers" "[I" ∈ wsX10_init := by decide +kernel
theorem mcX10_init_24 : Cond.fieldLink RX10 45 "LadleKings$TextReader" "tape" "LLadleKings$Tape;" ∈ wsX10_init := by decide +kernel
def pc_X10_init (D : va_G) (G : Nat → ClassId) (sz : Nat) (a_p0 : Nat) (a_p1 : Nat) : Array Value → State → Prop := va_Pc [.ref a_p0, .ref a_p1] (fun U => U.heap.size = sz ∧ va_P D vwCl [(a_p0, .inr (10, [.null, .null, .null, .int (Int32.ofInt (0 : Int)), .int (Int32.ofInt (0 : Int)), .int (Int32.ofInt (0 : Int)), .int (Int32.ofInt (0 : Int)), .int (Int32.ofInt (0 : Int)), .null]))] U.heap ∧ va_K D vwCl (tyG G) U ∧ va_D (fun _ => True) [(a_p0, .inr (10, [.null, .null, .null, .int (Int32.ofInt (0 : Int)), .int (Int32.ofInt (0 : Int)), .int (Int32.ofInt (0 : Int)), .int (Int32.ofInt (0 : Int)), .int (Int32.ofInt (0 : Int)), .null]))] ∧ va_Nw (.methodLinkNest RX10 11 yX6_init "LadleKings") U)
set_option maxHeartbeats 8000000 in
set_option maxRecDepth 100000 in
theorem c_X10_init (l : Launch) (D : va_G) (G : Nat → ClassId) (sz : Nat) (a_p0 : Nat) (a_p1 : Nat) (u_fill0_0 : (Int → Int)) (h_fill0 : f_J7_fill_53178 7 (fun _ => (0 : Int)) (1 : Int) = some u_fill0_0) : Met l yX10_init wsX10_init rm_X10_init (pc_X10_init D G sz a_p0 a_p1) (va_Qv (fun (_ : Unit) => True) (fun _ t => ∃ q1 q2 q3 q4 q5 q6 q7 q8 q9 q10 q11 q12 q13 : Nat, va_P D vwCl [(a_p0, .inr (10, [.ref a_p1, .ref q1, .ref q7, .int (Int32.ofInt (0 : Int)), .int (Int32.ofInt (0 : Int)), .int (Int32.ofInt (0 : Int)), .int (Int32.ofInt (0 : Int)), .int (Int32.ofInt (0 : Int)), .ref q13])), (q1, .inr (6, [.int (Int32.ofInt (4 : Int)), .int (Int32.ofInt (0 : Int)), .ref q2, .ref q3, .ref q4, .ref q5, .ref q6])), (q2, .inl (G 1, 7, .inl (zA (fun _ => (0 : Int))))), (q3, .inl (G 1, 5, .inl (zA (fun _ => (0 : Int))))), (q4, .inl (G 1, 5, .inl (zA (fun _ => (0 : Int))))), (q5, .inl (G 1, 5, .inl (zA (fun _ => (0 : Int))))), (q6, .inl (G 1, 35, .inl (zA (fun _ => (0 : Int))))), (q7, .inr (8, [.ref q8, .ref q9, .ref q10, .ref q11, .ref q12, .int (Int32.ofInt (0 : Int)), .int (Int32.ofInt (0 : Int)), .int (Int32.ofInt (0 : Int)), .int (Int32.ofInt (0 : Int))])), (q8, .inl (G 1, 7, .inl (zA (fun _ => (0 : Int))))), (q9, .inl (G 1, 7, .inl (zA (fun _ => (0 : Int))))), (q10, .inl (G 1, 7, .inl (zA u_fill0_0))), (q11, .inl (G 1, 7, .inl (zA (fun _ => (0 : Int))))), (q12, .inl (G 1, 6, .inl (zA (fun _ => (0 : Int))))), (q13, .inl (G 1, 7, .inl (zA (fun _ => (0 : Int)))))] t.heap ∧ va_K D vwCl (tyG G) t ∧ va_D (va_A [(a_p0, .inr (10, [.null, .null, .null, .int (Int32.ofInt (0 : Int)), .int (Int32.ofInt (0 : Int)), .int (Int32.ofInt (0 : Int)), .int (Int32.ofInt (0 : Int)), .int (Int32.ofInt (0 : Int)), .null]))] sz) [(a_p0, .inr (10, [.ref a_p1, .ref q1, .ref q7, .int (Int32.ofInt (0 : Int)), .int (Int32.ofInt (0 : Int)), .int (Int32.ofInt (0 : Int)), .int (Int32.ofInt (0 : Int)), .int (Int32.ofInt (0 : Int)), .ref q13])), (q1, .inr (6, [.int (Int32.ofInt (4 : Int)), .int (Int32.ofInt (0 : Int)), .ref q2, .ref q3, .ref q4, .ref q5, .ref q6])), (q2, .inl (G 1, 7, .inl (zA (fun _ => (0 : Int))))), (q3, .inl (G 1, 5, .inl (zA (fun _ => (0 : Int))))), (q4, .inl (G 1, 5, .inl (zA (fun _ => (0 : Int))))), (q5, .inl (G 1, 5, .inl (zA (fun _ => (0 : Int))))), (q6, .inl (G 1, 35, .inl (zA (fun _ => (0 : Int))))), (q7, .inr (8, [.ref q8, .ref q9, .ref q10, .ref q11, .ref q12, .int (Int32.ofInt (0 : Int)), .int (Int32.ofInt (0 : Int)), .int (Int32.ofInt (0 : Int)), .int (Int32.ofInt (0 : Int))])), (q8, .inl (G 1, 7, .inl (zA (fun _ => (0 : Int))))), (q9, .inl (G 1, 7, .inl (zA (fun _ => (0 : Int))))), (q10, .inl (G 1, 7, .inl (zA u_fill0_0))), (q11, .inl (G 1, 7, .inl (zA (fun _ => (0 : Int))))), (q12, .inl (G 1, 6, .inl (zA (fun _ => (0 : Int))))), (q13, .inl (G 1, 7, .inl (zA (fun _ => (0 : Int)))))]) (va_A [(a_p0, .inr (10, [.null, .null, .null, .int (Int32.ofInt (0 : Int)), .int (Int32.ofInt (0 : Int)), .int (Int32.ofInt (0 : Int)), .int (Int32.ofInt (0 : Int)), .int (Int32.ofInt (0 : Int)), .null]))] sz)) 13 114 (va_A [(a_p0, .inr (10, [.null, .null, .null, .int (Int32.ofInt (0 : Int)), .int (Int32.ofInt (0 : Int)), .int (Int32.ofInt (0 : Int)), .int (Int32.ofInt (0 : Int)), .int (Int32.ofInt (0 : Int)), .null]))] sz) := by
  refine Met.ofW (cc := cX10_init) (maxL := 2) (ret := none) (by decide) rfl ?_
  intro p e s m args below meth c s₁ B hml hv
  obtain ⟨rfl, hsz, hP, hK, hD0, hNw0⟩ := hv
  have hx := B.exec
  have hb := B.bytes
  have hr := B.returns
  have hts := atoms_spec (ws := wsX10_init) B.pre
  have hown : s.vm.findClass RX10 = some m.cls := findClass_of_methodNamed B.named
  have hlocks := B.notSynchronized
  have hin : meth.name = "<init>" := (name_of_methodNamed B.named B.method).1
  subst hsz
  have hD := hD0.self (sz := s.heap.size)
  generalize hAe : va_A [(a_p0, .inr (10, [.null, .null, .null, .int (Int32.ofInt (0 : Int)), .int (Int32.ofInt (0 : Int)), .int (Int32.ofInt (0 : Int)), .int (Int32.ofInt (0 : Int)), .int (Int32.ofInt (0 : Int)), .null]))] s.heap.size = A at hD ⊢
  have hA : ∀ q : Nat, s.heap.size ≤ q → A q := fun q h => by rw [← hAe]; exact Or.inr h
  clear hAe hD0
  have hS : va_S A s.heap s.heap [] := va_S.rf
  have hl := lv_entry ([.ref a_p0, .ref a_p1]) (n := 2) (Nat.le_of_ble_eq_true rfl)
  rw [lg_entry_eq]
  generalize (lg_sl ([.ref a_p0, .ref a_p1]) ++ List.replicate (2 - (lg_sl ([.ref a_p0, .ref a_p1])).length) Slot.unset).toArray = ls at hl ⊢
  have hl : lv_has ls 2 [(0, .ref a_p0), (1, .ref a_p1)] := hl
  refine W_nameQ (fun Q hQ => ?_)
  refine lv_aload_n hx hb dX10_init_0 rfl (lv_at hl 0 rfl) ?_
  refine W.objInit hx hb hown (hts _ mcX10_init_0) (hts _ mcX10_init_1) (hts _ mcX10_init_2) rfl (by rw [hml]; exact hl.1) rfl dX10_init_1 (Nat.le_of_ble_eq_true rfl) (Nat.le_of_ble_eq_true rfl) ?_
  refine W.eq (g2 := F0 m 4 ls []) rfl ?_
  refine lv_aload_n hx hb dX10_init_4 rfl (lv_at hl 0 rfl) ?_
  refine va_new (ci := 6) (fs := [.int (Int32.ofInt (0 : Int)), .int (Int32.ofInt (0 : Int)), .null, .null, .null, .null, .null]) (C := RX6) (T := TX6) (N := 7) hx hb hts icX10_init_X6 tyX6 tyX6_ok hown (hts _ mcX10_init_4) (hts _ mcX10_init_5) (hts _ mcX10_init_6) hK hP hD hS hA rfl (fun j hj => by rcases j with _ | (_ | (_ | (_ | (_ | (_ | (_ | j)))))) <;> first | rfl | (exfalso; omega)) (Nat.le_of_ble_eq_true rfl) (Nat.le_of_ble_eq_true rfl) dX10_init_5 (fun q1 H hP hD hS => ?_)
  have hP : va_P D vwCl [(a_p0, .inr (10, [.null, .null, .null, .int (Int32.ofInt (0 : Int)), .int (Int32.ofInt (0 : Int)), .int (Int32.ofInt (0 : Int)), .int (Int32.ofInt (0 : Int)), .int (Int32.ofInt (0 : Int)), .null])), (q1, .inr (6, [.int (Int32.ofInt (0 : Int)), .int (Int32.ofInt (0 : Int)), .null, .null, .null, .null, .null]))] H := hP
  have hD : va_D A [(a_p0, .inr (10, [.null, .null, .null, .int (Int32.ofInt (0 : Int)), .int (Int32.ofInt (0 : Int)), .int (Int32.ofInt (0 : Int)), .int (Int32.ofInt (0 : Int)), .int (Int32.ofInt (0 : Int)), .null])), (q1, .inr (6, [.int (Int32.ofInt (0 : Int)), .int (Int32.ofInt (0 : Int)), .null, .null, .null, .null, .null]))] := hD
  refine lv_dup hx hb dX10_init_8 rfl ?_
  have hFc := va_free (wc := [(q1, .inr (6, [.int (Int32.ofInt (0 : Int)), .int (Int32.ofInt (0 : Int)), .null, .null, .null, .null, .null]))]) hD hS hA [1] rfl
  refine va_callv (va_runIN (As := []) (rest := [.ref q1, .ref a_p0]) ⟨hx, hb, hml, hown, hts⟩ (c_X6_init (l := l) (D := D) (G := G) (sz := H.size) (a_p0 := q1)) ⟨va_cnB 0 hts gX10_init_X6_init_n11 rfl rfl rfl hNw0 (hts _ mcX10_init_6) (by decide +kernel) ⟨(Nat.le_of_ble_eq_true rfl), (Nat.le_of_ble_eq_true rfl)⟩, rfl, (hts _ mcX10_init_7)⟩ ⟨fun a U g mk q => by obtain ⟨q0, q1, qP, qK, qD⟩ := q; exact ⟨q0, q1, qP, va_K.moved (u := U) (U := U.calling g mk a) (Vm.Alike.refl U.vm) qK, qD⟩, fun U hU hW => ⟨rfl, by rw [hU], by rw [hU]; exact hP.sub [1] rfl, va_K.moved hW.alike hK, (hD.sub [1] rfl rfl).weaken (fun _ _ _ _ => trivial)⟩⟩ rfl rfl hl.1 rfl (lv_room (Nat.le_of_ble_eq_true rfl)) dX10_init_9 ⟨(Nat.le_of_ble_eq_true rfl), (Nat.le_of_ble_eq_true rfl)⟩) hS (fun q _ h => hFc q h) hFc (fun u t H1 locs ht hvm hw hB hz1 hk1 hSn => ?_)
  obtain ⟨q2, q3, q4, q5, q6, hP1, hK1, hD1⟩ := hB
  rw [ht] at hP1
  obtain ⟨hP, hD⟩ := gc_joinA (wr := [(a_p0, .inr (10, [.null, .null, .null, .int (Int32.ofInt (0 : Int)), .int (Int32.ofInt (0 : Int)), .int (Int32.ofInt (0 : Int)), .int (Int32.ofInt (0 : Int)), .int (Int32.ofInt (0 : Int)), .null]))]) (ws' := [(a_p0, .inr (10, [.null, .null, .null, .int (Int32.ofInt (0 : Int)), .int (Int32.ofInt (0 : Int)), .int (Int32.ofInt (0 : Int)), .int (Int32.ofInt (0 : Int)), .int (Int32.ofInt (0 : Int)), .null])), (q1, .inr (6, [.int (Int32.ofInt (4 : Int)), .int (Int32.ofInt (0 : Int)), .ref q2, .ref q3, .ref q4, .ref q5, .ref q6])), (q2, .inl (G 1, 7, .inl (zA (fun _ => (0 : Int))))), (q3, .inl (G 1, 5, .inl (zA (fun _ => (0 : Int))))), (q4, .inl (G 1, 5, .inl (zA (fun _ => (0 : Int))))), (q5, .inl (G 1, 5, .inl (zA (fun _ => (0 : Int))))), (q6, .inl (G 1, 35, .inl (zA (fun _ => (0 : Int)))))]) hP hD hS hA [1] [0] rfl rfl rfl (by decide) rfl hk1 hP1 hD1
  have hS := hSn
  clear hSn hP1 hK1 hD1 hFc hk1 hz1 hvm
  generalize H1 = H at hP hS ht ⊢
  clear ht
  refine va_putF (D := D) (ci := 10) (v := .ref q1) (ty := .object "LadleKings$Rules") (C := RX10) (T := TX10) (N := 9) hx hb hts icX10_init_X10 tyX10 tyX10_ok nmX10 hown hK hP hD hS 0 rfl rfl 1 (by decide) (hts _ mcX10_init_9) (fun _ h9 => h9) rfl hin rfl (by decide +kernel) rfl rfl (Nat.le_of_ble_eq_true rfl) dX10_init_12 (fun H locs hP hD hS => ?_)
  have hP : va_P D vwCl [(a_p0, .inr (10, [.null, .ref q1, .null, .int (Int32.ofInt (0 : Int)), .int (Int32.ofInt (0 : Int)), .int (Int32.ofInt (0 : Int)), .int (Int32.ofInt (0 : Int)), .int (Int32.ofInt (0 : Int)), .null])), (q1, .inr (6, [.int (Int32.ofInt (4 : Int)), .int (Int32.ofInt (0 : Int)), .ref q2, .ref q3, .ref q4, .ref q5, .ref q6])), (q2, .inl (G 1, 7, .inl (zA (fun _ => (0 : Int))))), (q3, .inl (G 1, 5, .inl (zA (fun _ => (0 : Int))))), (q4, .inl (G 1, 5, .inl (zA (fun _ => (0 : Int))))), (q5, .inl (G 1, 5, .inl (zA (fun _ => (0 : Int))))), (q6, .inl (G 1, 35, .inl (zA (fun _ => (0 : Int)))))] H := hP
  have hD : va_D A [(a_p0, .inr (10, [.null, .ref q1, .null, .int (Int32.ofInt (0 : Int)), .int (Int32.ofInt (0 : Int)), .int (Int32.ofInt (0 : Int)), .int (Int32.ofInt (0 : Int)), .int (Int32.ofInt (0 : Int)), .null])), (q1, .inr (6, [.int (Int32.ofInt (4 : Int)), .int (Int32.ofInt (0 : Int)), .ref q2, .ref q3, .ref q4, .ref q5, .ref q6])), (q2, .inl (G 1, 7, .inl (zA (fun _ => (0 : Int))))), (q3, .inl (G 1, 5, .inl (zA (fun _ => (0 : Int))))), (q4, .inl (G 1, 5, .inl (zA (fun _ => (0 : Int))))), (q5, .inl (G 1, 5, .inl (zA (fun _ => (0 : Int))))), (q6, .inl (G 1, 35, .inl (zA (fun _ => (0 : Int)))))] := hD
  refine lv_aload_n hx hb dX10_init_15 rfl (lv_at hl 0 rfl) ?_
  refine va_new (ci := 8) (fs := [.null, .null, .null, .null, .null, .int (Int32.ofInt (0 : Int)), .int (Int32.ofInt (0 : Int)), .int (Int32.ofInt (0 : Int)), .int (Int32.ofInt (0 : Int))]) (C := RX8) (T := TX8) (N := 9) hx hb hts icX10_init_X8 tyX8 tyX8_ok hown (hts _ mcX10_init_11) (hts _ mcX10_init_12) (hts _ mcX10_init_13) hK hP hD hS hA rfl (fun j hj => by rcases j with _ | (_ | (_ | (_ | (_ | (_ | (_ | (_ | (_ | j)))))))) <;> first | rfl | (exfalso; omega)) (Nat.le_of_ble_eq_true rfl) (Nat.le_of_ble_eq_true rfl) dX10_init_16 (fun q7 H hP hD hS => ?_)
  have hP : va_P D vwCl [(a_p0, .inr (10, [.null, .ref q1, .null, .int (Int32.ofInt (0 : Int)), .int (Int32.ofInt (0 : Int)), .int (Int32.ofInt (0 : Int)), .int (Int32.ofInt (0 : Int)), .int (Int32.ofInt (0 : Int)), .null])), (q1, .inr (6, [.int (Int32.ofInt (4 : Int)), .int (Int32.ofInt (0 : Int)), .ref q2, .ref q3, .ref q4, .ref q5, .ref q6])), (q2, .inl (G 1, 7, .inl (zA (fun _ => (0 : Int))))), (q3, .inl (G 1, 5, .inl (zA (fun _ => (0 : Int))))), (q4, .inl (G 1, 5, .inl (zA (fun _ => (0 : Int))))), (q5, .inl (G 1, 5, .inl (zA (fun _ => (0 : Int))))), (q6, .inl (G 1, 35, .inl (zA (fun _ => (0 : Int))))), (q7, .inr (8, [.null, .null, .null, .null, .null, .int (Int32.ofInt (0 : Int)), .int (Int32.ofInt (0 : Int)), .int (Int32.ofInt (0 : Int)), .int (Int32.ofInt (0 : Int))]))] H := hP
  have hD : va_D A [(a_p0, .inr (10, [.null, .ref q1, .null, .int (Int32.ofInt (0 : Int)), .int (Int32.ofInt (0 : Int)), .int (Int32.ofInt (0 : Int)), .int (Int32.ofInt (0 : Int)), .int (Int32.ofInt (0 : Int)), .null])), (q1, .inr (6, [.int (Int32.ofInt (4 : Int)), .int (Int32.ofInt (0 : Int)), .ref q2, .ref q3, .ref q4, .ref q5, .ref q6])), (q2, .inl (G 1, 7, .inl (zA (fun _ => (0 : Int))))), (q3, .inl (G 1, 5, .inl (zA (fun _ => (0 : Int))))), (q4, .inl (G 1, 5, .inl (zA (fun _ => (0 : Int))))), (q5, .inl (G 1, 5, .inl (zA (fun _ => (0 : Int))))), (q6, .inl (G 1, 35, .inl (zA (fun _ => (0 : Int))))), (q7, .inr (8, [.null, .null, .null, .null, .null, .int (Int32.ofInt (0 : Int)), .int (Int32.ofInt (0 : Int)), .int (Int32.ofInt (0 : Int)), .int (Int32.ofInt (0 : Int))]))] := hD
  refine lv_dup hx hb dX10_init_19 rfl ?_
  have hFc := va_free (wc := [(q7, .inr (8, [.null, .null, .null, .null, .null, .int (Int32.ofInt (0 : Int)), .int (Int32.ofInt (0 : Int)), .int (Int32.ofInt (0 : Int)), .int (Int32.ofInt (0 : Int))]))]) hD hS hA [7] rfl
  refine va_callv (va_runI (As := []) (rest := [.ref q7, .ref a_p0]) ⟨hx, hb, hml, hown, hts⟩ (c_X8_init (l := l) (D := D) (G := G) (sz := H.size) (a_p0 := q7) (u_fill0_0 := u_fill0_0) (h_fill0 := h_fill0)) (cwI 0 hts gX10_init_X8_init rfl rfl rfl (hts _ mcX10_init_13) (hts _ mcX10_init_14) (hts _ mcX10_init_15) rfl (by decide +kernel) ⟨(Nat.le_of_ble_eq_true rfl), (Nat.le_of_ble_eq_true rfl)⟩) ⟨fun a U g mk q => by obtain ⟨q0, q1, qP, qK, qD⟩ := q; exact ⟨q0, q1, qP, va_K.moved (u := U) (U := U.calling g mk a) (Vm.Alike.refl U.vm) qK, qD⟩, fun U hU hW => ⟨rfl, by rw [hU], by rw [hU]; exact hP.sub [7] rfl, va_K.moved hW.alike hK, (hD.sub [7] rfl rfl).weaken (fun _ _ _ _ => trivial)⟩⟩ rfl rfl hl.1 rfl (lv_room (Nat.le_of_ble_eq_true rfl)) dX10_init_20 ⟨(Nat.le_of_ble_eq_true rfl), (Nat.le_of_ble_eq_true rfl)⟩) hS (fun q _ h => hFc q h) hFc (fun u t H1 locs ht hvm hw hB hz1 hk1 hSn => ?_)
  obtain ⟨q8, q9, q10, q11, q12, hP1, hK1, hD1⟩ := hB
  rw [ht] at hP1
  obtain ⟨hP, hD⟩ := gc_joinA (wr := [(a_p0, .inr (10, [.null, .ref q1, .null, .int (Int32.ofInt (0 : Int)), .int (Int32.ofInt (0 : Int)), .int (Int32.ofInt (0 : Int)), .int (Int32.ofInt (0 : Int)), .int (Int32.ofInt (0 : Int)), .null])), (q1, .inr (6, [.int (Int32.ofInt (4 : Int)), .int (Int32.ofInt (0 : Int)), .ref q2, .ref q3, .ref q4, .ref q5, .ref q6])), (q2, .inl (G 1, 7, .inl (zA (fun _ => (0 : Int))))), (q3, .inl (G 1, 5, .inl (zA (fun _ => (0 : Int))))), (q4, .inl (G 1, 5, .inl (zA (fun _ => (0 : Int))))), (q5, .inl (G 1, 5, .inl (zA (fun _ => (0 : Int))))), (q6, .inl (G 1, 35, .inl (zA (fun _ => (0 : Int)))))]) (ws' := [(a_p0, .inr (10, [.null, .ref q1, .null, .int (Int32.ofInt (0 : Int)), .int (Int32.ofInt (0 : Int)), .int (Int32.ofInt (0 : Int)), .int (Int32.ofInt (0 : Int)), .int (Int32.ofInt (0 : Int)), .null])), (q1, .inr (6, [.int (Int32.ofInt (4 : Int)), .int (Int32.ofInt (0 : Int)), .ref q2, .ref q3, .ref q4, .ref q5, .ref q6])), (q2, .inl (G 1, 7, .inl (zA (fun _ => (0 : Int))))), (q3, .inl (G 1, 5, .inl (zA (fun _ => (0 : Int))))), (q4, .inl (G 1, 5, .inl (zA (fun _ => (0 : Int))))), (q5, .inl (G 1, 5, .inl (zA (fun _ => (0 : Int))))), (q6, .inl (G 1, 35, .inl (zA (fun _ => (0 : Int))))), (q7, .inr (8, [.ref q8, .ref q9, .ref q10, .ref q11, .ref q12, .int (Int32.ofInt (0 : Int)), .int (Int32.ofInt (0 : Int)), .int (Int32.ofInt (0 : Int)), .int (Int32.ofInt (0 : Int))])), (q8, .inl (G 1, 7, .inl (zA (fun _ => (0 : Int))))), (q9, .inl (G 1, 7, .inl (zA (fun _ => (0 : Int))))), (q10, .inl (G 1, 7, .inl (zA u_fill0_0))), (q11, .inl (G 1, 7, .inl (zA (fun _ => (0 : Int))))), (q12, .inl (G 1, 6, .inl (zA (fun _ => (0 : Int)))))]) hP hD hS hA [7] [0, 1, 2, 3, 4, 5, 6] rfl rfl rfl (by decide) rfl hk1 hP1 hD1
  have hS := hSn
  clear hSn hP1 hK1 hD1 hFc hk1 hz1 hvm
  generalize H1 = H at hP hS ht ⊢
  clear ht
  refine va_putF (D := D) (ci := 10) (v := .ref q7) (ty := .object "LadleKings$State") (C := RX10) (T := TX10) (N := 9) hx hb hts icX10_init_X10 tyX10 tyX10_ok nmX10 hown hK hP hD hS 0 rfl rfl 2 (by decide) (hts _ mcX10_init_16) (fun _ h9 => h9) rfl hin rfl (by decide +kernel) rfl rfl (Nat.le_of_ble_eq_true rfl) dX10_init_23 (fun H locs hP hD hS => ?_)
  have hP : va_P D vwCl [(a_p0, .inr (10, [.null, .ref q1, .ref q7, .int (Int32.ofInt (0 : Int)), .int (Int32.ofInt (0 : Int)), .int (Int32.ofInt (0 : Int)), .int (Int32.ofInt (0 : Int)), .int (Int32.ofInt (0 : Int)), .null])), (q1, .inr (6, [.int (Int32.ofInt (4 : Int)), .int (Int32.ofInt (0 : Int)), .ref q2, .ref q3, .ref q4, .ref q5, .ref q6])), (q2, .inl (G 1, 7, .inl (zA (fun _ => (0 : Int))))), (q3, .inl (G 1, 5, .inl (zA (fun _ => (0 : Int))))), (q4, .inl (G 1, 5, .inl (zA (fun _ => (0 : Int))))), (q5, .inl (G 1, 5, .inl (zA (fun _ => (0 : Int))))), (q6, .inl (G 1, 35, .inl (zA (fun _ => (0 : Int))))), (q7, .inr (8, [.ref q8, .ref q9, .ref q10, .ref q11, .ref q12, .int (Int32.ofInt (0 : Int)), .int (Int32.ofInt (0 : Int)), .int (Int32.ofInt (0 : Int)), .int (Int32.ofInt (0 : Int))])), (q8, .inl (G 1, 7, .inl (zA (fun _ => (0 : Int))))), (q9, .inl (G 1, 7, .inl (zA (fun _ => (0 : Int))))), (q10, .inl (G 1, 7, .inl (zA u_fill0_0))), (q11, .inl (G 1, 7, .inl (zA (fun _ => (0 : Int))))), (q12, .inl (G 1, 6, .inl (zA (fun _ => (0 : Int)))))] H := hP
  have hD : va_D A [(a_p0, .inr (10, [.null, .ref q1, .ref q7, .int (Int32.ofInt (0 : Int)), .int (Int32.ofInt (0 : Int)), .int (Int32.ofInt (0 : Int)), .int (Int32.ofInt (0 : Int)), .int (Int32.ofInt (0 : Int)), .null])), (q1, .inr (6, [.int (Int32.ofInt (4 : Int)), .int (Int32.ofInt (0 : Int)), .ref q2, .ref q3, .ref q4, .ref q5, .ref q6])), (q2, .inl (G 1, 7, .inl (zA (fun _ => (0 : Int))))), (q3, .inl (G 1, 5, .inl (zA (fun _ => (0 : Int))))), (q4, .inl (G 1, 5, .inl (zA (fun _ => (0 : Int))))), (q5, .inl (G 1, 5, .inl (zA (fun _ => (0 : Int))))), (q6, .inl (G 1, 35, .inl (zA (fun _ => (0 : Int))))), (q7, .inr (8, [.ref q8, .ref q9, .ref q10, .ref q11, .ref q12, .int (Int32.ofInt (0 : Int)), .int (Int32.ofInt (0 : Int)), .int (Int32.ofInt (0 : Int)), .int (Int32.ofInt (0 : Int))])), (q8, .inl (G 1, 7, .inl (zA (fun _ => (0 : Int))))), (q9, .inl (G 1, 7, .inl (zA (fun _ => (0 : Int))))), (q10, .inl (G 1, 7, .inl (zA u_fill0_0))), (q11, .inl (G 1, 7, .inl (zA (fun _ => (0 : Int))))), (q12, .inl (G 1, 6, .inl (zA (fun _ => (0 : Int)))))] := hD
  refine lv_aload_n hx hb dX10_init_26 rfl (lv_at hl 0 rfl) ?_
  refine lv_iconst (v := (Int32.ofInt (0 : Int))) hx hb dX10_init_27 (by decide) ?_
  refine va_put (D := D) (ci := 10) (v := .int (Int32.ofInt (0 : Int))) (ty := .int) (C := RX10) (T := TX10) (N := 9) hx hb hts icX10_init_X10 tyX10 tyX10_ok nmX10 hown hK hP hD hS 0 rfl rfl 3 (by decide) (hts _ mcX10_init_17) (fun _ h9 => h9) rfl (by decide +kernel) rfl rfl (Nat.le_of_ble_eq_true rfl) dX10_init_28 (fun H locs hP hD hS => ?_)
  have hP : va_P D vwCl [(a_p0, .inr (10, [.null, .ref q1, .ref q7, .int (Int32.ofInt (0 : Int)), .int (Int32.ofInt (0 : Int)), .int (Int32.ofInt (0 : Int)), .int (Int32.ofInt (0 : Int)), .int (Int32.ofInt (0 : Int)), .null])), (q1, .inr (6, [.int (Int32.ofInt (4 : Int)), .int (Int32.ofInt (0 : Int)), .ref q2, .ref q3, .ref q4, .ref q5, .ref q6])), (q2, .inl (G 1, 7, .inl (zA (fun _ => (0 : Int))))), (q3, .inl (G 1, 5, .inl (zA (fun _ => (0 : Int))))), (q4, .inl (G 1, 5, .inl (zA (fun _ => (0 : Int))))), (q5, .inl (G 1, 5, .inl (zA (fun _ => (0 : Int))))), (q6, .inl (G 1, 35, .inl (zA (fun _ => (0 : Int))))), (q7, .inr (8, [.ref q8, .ref q9, .ref q10, .ref q11, .ref q12, .int (Int32.ofInt (0 : Int)), .int (Int32.ofInt (0 : Int)), .int (Int32.ofInt (0 : Int)), .int (Int32.ofInt (0 : Int))])), (q8, .inl (G 1, 7, .inl (zA (fun _ => (0 : Int))))), (q9, .inl (G 1, 7, .inl (zA (fun _ => (0 : Int))))), (q10, .inl (G 1, 7, .inl (zA u_fill0_0))), (q11, .inl (G 1, 7, .inl (zA (fun _ => (0 : Int))))), (q12, .inl (G 1, 6, .inl (zA (fun _ => (0 : Int)))))] H := hP
  have hD : va_D A [(a_p0, .inr (10, [.null, .ref q1, .ref q7, .int (Int32.ofInt (0 : Int)), .int (Int32.ofInt (0 : Int)), .int (Int32.ofInt (0 : Int)), .int (Int32.ofInt (0 : Int)), .int (Int32.ofInt (0 : Int)), .null])), (q1, .inr (6, [.int (Int32.ofInt (4 : Int)), .int (Int32.ofInt (0 : Int)), .ref q2, .ref q3, .ref q4, .ref q5, .ref q6])), (q2, .inl (G 1, 7, .inl (zA (fun _ => (0 : Int))))), (q3, .inl (G 1, 5, .inl (zA (fun _ => (0 : Int))))), (q4, .inl (G 1, 5, .inl (zA (fun _ => (0 : Int))))), (q5, .inl (G 1, 5, .inl (zA (fun _ => (0 : Int))))), (q6, .inl (G 1, 35, .inl (zA (fun _ => (0 : Int))))), (q7, .inr (8, [.ref q8, .ref q9, .ref q10, .ref q11, .ref q12, .int (Int32.ofInt (0 : Int)), .int (Int32.ofInt (0 : Int)), .int (Int32.ofInt (0 : Int)), .int (Int32.ofInt (0 : Int))])), (q8, .inl (G 1, 7, .inl (zA (fun _ => (0 : Int))))), (q9, .inl (G 1, 7, .inl (zA (fun _ => (0 : Int))))), (q10, .inl (G 1, 7, .inl (zA u_fill0_0))), (q11, .inl (G 1, 7, .inl (zA (fun _ => (0 : Int))))), (q12, .inl (G 1, 6, .inl (zA (fun _ => (0 : Int)))))] := hD
  refine lv_aload_n hx hb dX10_init_31 rfl (lv_at hl 0 rfl) ?_
  refine lv_iconst (v := (Int32.ofInt (0 : Int))) hx hb dX10_init_32 (by decide) ?_
  refine va_put (D := D) (ci := 10) (v := .int (Int32.ofInt (0 : Int))) (ty := .int) (C := RX10) (T := TX10) (N := 9) hx hb hts icX10_init_X10 tyX10 tyX10_ok nmX10 hown hK hP hD hS 0 rfl rfl 4 (by decide) (hts _ mcX10_init_18) (fun _ h9 => h9) rfl (by decide +kernel) rfl rfl (Nat.le_of_ble_eq_true rfl) dX10_init_33 (fun H locs hP hD hS => ?_)
  have hP : va_P D vwCl [(a_p0, .inr (10, [.null, .ref q1, .ref q7, .int (Int32.ofInt (0 : Int)), .int (Int32.ofInt (0 : Int)), .int (Int32.ofInt (0 : Int)), .int (Int32.ofInt (0 : Int)), .int (Int32.ofInt (0 : Int)), .null])), (q1, .inr (6, [.int (Int32.ofInt (4 : Int)), .int (Int32.ofInt (0 : Int)), .ref q2, .ref q3, .ref q4, .ref q5, .ref q6])), (q2, .inl (G 1, 7, .inl (zA (fun _ => (0 : Int))))), (q3, .inl (G 1, 5, .inl (zA (fun _ => (0 : Int))))), (q4, .inl (G 1, 5, .inl (zA (fun _ => (0 : Int))))), (q5, .inl (G 1, 5, .inl (zA (fun _ => (0 : Int))))), (q6, .inl (G 1, 35, .inl (zA (fun _ => (0 : Int))))), (q7, .inr (8, [.ref q8, .ref q9, .ref q10, .ref q11, .ref q12, .int (Int32.ofInt (0 : Int)), .int (Int32.ofInt (0 : Int)), .int (Int32.ofInt (0 : Int)), .int (Int32.ofInt (0 : Int))])), (q8, .inl (G 1, 7, .inl (zA (fun _ => (0 : Int))))), (q9, .inl (G 1, 7, .inl (zA (fun _ => (0 : Int))))), (q10, .inl (G 1, 7, .inl (zA u_fill0_0))), (q11, .inl (G 1, 7, .inl (zA (fun _ => (0 : Int))))), (q12, .inl (G 1, 6, .inl (zA (fun _ => (0 : Int)))))] H := hP
  have hD : va_D A [(a_p0, .inr (10, [.null, .ref q1, .ref q7, .int (Int32.ofInt (0 : Int)), .int (Int32.ofInt (0 : Int)), .int (Int32.ofInt (0 : Int)), .int (Int32.ofInt (0 : Int)), .int (Int32.ofInt (0 : Int)), .null])), (q1, .inr (6, [.int (Int32.ofInt (4 : Int)), .int (Int32.ofInt (0 : Int)), .ref q2, .ref q3, .ref q4, .ref q5, .ref q6])), (q2, .inl (G 1, 7, .inl (zA (fun _ => (0 : Int))))), (q3, .inl (G 1, 5, .inl (zA (fun _ => (0 : Int))))), (q4, .inl (G 1, 5, .inl (zA (fun _ => (0 : Int))))), (q5, .inl (G 1, 5, .inl (zA (fun _ => (0 : Int))))), (q6, .inl (G 1, 35, .inl (zA (fun _ => (0 : Int))))), (q7, .inr (8, [.ref q8, .ref q9, .ref q10, .ref q11, .ref q12, .int (Int32.ofInt (0 : Int)), .int (Int32.ofInt (0 : Int)), .int (Int32.ofInt (0 : Int)), .int (Int32.ofInt (0 : Int))])), (q8, .inl (G 1, 7, .inl (zA (fun _ => (0 : Int))))), (q9, .inl (G 1, 7, .inl (zA (fun _ => (0 : Int))))), (q10, .inl (G 1, 7, .inl (zA u_fill0_0))), (q11, .inl (G 1, 7, .inl (zA (fun _ => (0 : Int))))), (q12, .inl (G 1, 6, .inl (zA (fun _ => (0 : Int)))))] := hD
  refine lv_aload_n hx hb dX10_init_36 rfl (lv_at hl 0 rfl) ?_
  refine lv_iconst (v := (Int32.ofInt (0 : Int))) hx hb dX10_init_37 (by decide) ?_
  refine va_put (D := D) (ci := 10) (v := .int (Int32.ofInt (0 : Int))) (ty := .int) (C := RX10) (T := TX10) (N := 9) hx hb hts icX10_init_X10 tyX10 tyX10_ok nmX10 hown hK hP hD hS 0 rfl rfl 5 (by decide) (hts _ mcX10_init_19) (fun _ h9 => h9) rfl (by decide +kernel) rfl rfl (Nat.le_of_ble_eq_true rfl) dX10_init_38 (fun H locs hP hD hS => ?_)
  have hP : va_P D vwCl [(a_p0, .inr (10, [.null, .ref q1, .ref q7, .int (Int32.ofInt (0 : Int)), .int (Int32.ofInt (0 : Int)), .int (Int32.ofInt (0 : Int)), .int (Int32.ofInt (0 : Int)), .int (Int32.ofInt (0 : Int)), .null])), (q1, .inr (6, [.int (Int32.ofInt (4 : Int)), .int (Int32.ofInt (0 : Int)), .ref q2, .ref q3, .ref q4, .ref q5, .ref q6])), (q2, .inl (G 1, 7, .inl (zA (fun _ => (0 : Int))))), (q3, .inl (G 1, 5, .inl (zA (fun _ => (0 : Int))))), (q4, .inl (G 1, 5, .inl (zA (fun _ => (0 : Int))))), (q5, .inl (G 1, 5, .inl (zA (fun _ => (0 : Int))))), (q6, .inl (G 1, 35, .inl (zA (fun _ => (0 : Int))))), (q7, .inr (8, [.ref q8, .ref q9, .ref q10, .ref q11, .ref q12, .int (Int32.ofInt (0 : Int)), .int (Int32.ofInt (0 : Int)), .int (Int32.ofInt (0 : Int)), .int (Int32.ofInt (0 : Int))])), (q8, .inl (G 1, 7, .inl (zA (fun _ => (0 : Int))))), (q9, .inl (G 1, 7, .inl (zA (fun _ => (0 : Int))))), (q10, .inl (G 1, 7, .inl (zA u_fill0_0))), (q11, .inl (G 1, 7, .inl (zA (fun _ => (0 : Int))))), (q12, .inl (G 1, 6, .inl (zA (fun _ => (0 : Int)))))] H := hP
  have hD : va_D A [(a_p0, .inr (10, [.null, .ref q1, .ref q7, .int (Int32.ofInt (0 : Int)), .int (Int32.ofInt (0 : Int)), .int (Int32.ofInt (0 : Int)), .int (Int32.ofInt (0 : Int)), .int (Int32.ofInt (0 : Int)), .null])), (q1, .inr (6, [.int (Int32.ofInt (4 : Int)), .int (Int32.ofInt (0 : Int)), .ref q2, .ref q3, .ref q4, .ref q5, .ref q6])), (q2, .inl (G 1, 7, .inl (zA (fun _ => (0 : Int))))), (q3, .inl (G 1, 5, .inl (zA (fun _ => (0 : Int))))), (q4, .inl (G 1, 5, .inl (zA (fun _ => (0 : Int))))), (q5, .inl (G 1, 5, .inl (zA (fun _ => (0 : Int))))), (q6, .inl (G 1, 35, .inl (zA (fun _ => (0 : Int))))), (q7, .inr (8, [.ref q8, .ref q9, .ref q10, .ref q11, .ref q12, .int (Int32.ofInt (0 : Int)), .int (Int32.ofInt (0 : Int)), .int (Int32.ofInt (0 : Int)), .int (Int32.ofInt (0 : Int))])), (q8, .inl (G 1, 7, .inl (zA (fun _ => (0 : Int))))), (q9, .inl (G 1, 7, .inl (zA (fun _ => (0 : Int))))), (q10, .inl (G 1, 7, .inl (zA u_fill0_0))), (q11, .inl (G 1, 7, .inl (zA (fun _ => (0 : Int))))), (q12, .inl (G 1, 6, .inl (zA (fun _ => (0 : Int)))))] := hD
  refine lv_aload_n hx hb dX10_init_41 rfl (lv_at hl 0 rfl) ?_
  refine lv_iconst (v := (Int32.ofInt (0 : Int))) hx hb dX10_init_42 (by decide) ?_
  refine va_put (D := D) (ci := 10) (v := .int (Int32.ofInt (0 : Int))) (ty := .int) (C := RX10) (T := TX10) (N := 9) hx hb hts icX10_init_X10 tyX10 tyX10_ok nmX10 hown hK hP hD hS 0 rfl rfl 6 (by decide) (hts _ mcX10_init_20) (fun _ h9 => h9) rfl (by decide +kernel) rfl rfl (Nat.le_of_ble_eq_true rfl) dX10_init_43 (fun H locs hP hD hS => ?_)
  have hP : va_P D vwCl [(a_p0, .inr (10, [.null, .ref q1, .ref q7, .int (Int32.ofInt (0 : Int)), .int (Int32.ofInt (0 : Int)), .int (Int32.ofInt (0 : Int)), .int (Int32.ofInt (0 : Int)), .int (Int32.ofInt (0 : Int)), .null])), (q1, .inr (6, [.int (Int32.ofInt (4 : Int)), .int (Int32.ofInt (0 : Int)), .ref q2, .ref q3, .ref q4, .ref q5, .ref q6])), (q2, .inl (G 1, 7, .inl (zA (fun _ => (0 : Int))))), (q3, .inl (G 1, 5, .inl (zA (fun _ => (0 : Int))))), (q4, .inl (G 1, 5, .inl (zA (fun _ => (0 : Int))))), (q5, .inl (G 1, 5, .inl (zA (fun _ => (0 : Int))))), (q6, .inl (G 1, 35, .inl (zA (fun _ => (0 : Int))))), (q7, .inr (8, [.ref q8, .ref q9, .ref q10, .ref q11, .ref q12, .int (Int32.ofInt (0 : Int)), .int (Int32.ofInt (0 : Int)), .int (Int32.ofInt (0 : Int)), .int (Int32.ofInt (0 : Int))])), (q8, .inl (G 1, 7, .inl (zA (fun _ => (0 : Int))))), (q9, .inl (G 1, 7, .inl (zA (fun _ => (0 : Int))))), (q10, .inl (G 1, 7, .inl (zA u_fill0_0))), (q11, .inl (G 1, 7, .inl (zA (fun _ => (0 : Int))))), (q12, .inl (G 1, 6, .inl (zA (fun _ => (0 : Int)))))] H := hP
  have hD : va_D A [(a_p0, .inr (10, [.null, .ref q1, .ref q7, .int (Int32.ofInt (0 : Int)), .int (Int32.ofInt (0 : Int)), .int (Int32.ofInt (0 : Int)), .int (Int32.ofInt (0 : Int)), .int (Int32.ofInt (0 : Int)), .null])), (q1, .inr (6, [.int (Int32.ofInt (4 : Int)), .int (Int32.ofInt (0 : Int)), .ref q2, .ref q3, .ref q4, .ref q5, .ref q6])), (q2, .inl (G 1, 7, .inl (zA (fun _ => (0 : Int))))), (q3, .inl (G 1, 5, .inl (zA (fun _ => (0 : Int))))), (q4, .inl (G 1, 5, .inl (zA (fun _ => (0 : Int))))), (q5, .inl (G 1, 5, .inl (zA (fun _ => (0 : Int))))), (q6, .inl (G 1, 35, .inl (zA (fun _ => (0 : Int))))), (q7, .inr (8, [.ref q8, .ref q9, .ref q10, .ref q11, .ref q12, .int (Int32.ofInt (0 : Int)), .int (Int32.ofInt (0 : Int)), .int (Int32.ofInt (0 : Int)), .int (Int32.ofInt (0 : Int))])), (q8, .inl (G 1, 7, .inl (zA (fun _ => (0 : Int))))), (q9, .inl (G 1, 7, .inl (zA (fun _ => (0 : Int))))), (q10, .inl (G 1, 7, .inl (zA u_fill0_0))), (q11, .inl (G 1, 7, .inl (zA (fun _ => (0 : Int))))), (q12, .inl (G 1, 6, .inl (zA (fun _ => (0 : Int)))))] := hD
  refine lv_aload_n hx hb dX10_init_46 rfl (lv_at hl 0 rfl) ?_
  refine lv_iconst (v := (Int32.ofInt (0 : Int))) hx hb dX10_init_47 (by decide) ?_
  refine va_put (D := D) (ci := 10) (v := .int (Int32.ofInt (0 : Int))) (ty := .int) (C := RX10) (T := TX10) (N := 9) hx hb hts icX10_init_X10 tyX10 tyX10_ok nmX10 hown hK hP hD hS 0 rfl rfl 7 (by decide) (hts _ mcX10_init_21) (fun _ h9 => h9) rfl (by decide +kernel) rfl rfl (Nat.le_of_ble_eq_true rfl) dX10_init_48 (fun H locs hP hD hS => ?_)
  have hP : va_P D vwCl [(a_p0, .inr (10, [.null, .ref q1, .ref q7, .int (Int32.ofInt (0 : Int)), .int (Int32.ofInt (0 : Int)), .int (Int32.ofInt (0 : Int)), .int (Int32.ofInt (0 : Int)), .int (Int32.ofInt (0 : Int)), .null])), (q1, .inr (6, [.int (Int32.ofInt (4 : Int)), .int (Int32.ofInt (0 : Int)), .ref q2, .ref q3, .ref q4, .ref q5, .ref q6])), (q2, .inl (G 1, 7, .inl (zA (fun _ => (0 : Int))))), (q3, .inl (G 1, 5, .inl (zA (fun _ => (0 : Int))))), (q4, .inl (G 1, 5, .inl (zA (fun _ => (0 : Int))))), (q5, .inl (G 1, 5, .inl (zA (fun _ => (0 : Int))))), (q6, .inl (G 1, 35, .inl (zA (fun _ => (0 : Int))))), (q7, .inr (8, [.ref q8, .ref q9, .ref q10, .ref q11, .ref q12, .int (Int32.ofInt (0 : Int)), .int (Int32.ofInt (0 : Int)), .int (Int32.ofInt (0 : Int)), .int (Int32.ofInt (0 : Int))])), (q8, .inl (G 1, 7, .inl (zA (fun _ => (0 : Int))))), (q9, .inl (G 1, 7, .inl (zA (fun _ => (0 : Int))))), (q10, .inl (G 1, 7, .inl (zA u_fill0_0))), (q11, .inl (G 1, 7, .inl (zA (fun _ => (0 : Int))))), (q12, .inl (G 1, 6, .inl (zA (fun _ => (0 : Int)))))] H := hP
  have hD : va_D A [(a_p0, .inr (10, [.null, .ref q1, .ref q7, .int (Int32.ofInt (0 : Int)), .int (Int32.ofInt (0 : Int)), .int (Int32.ofInt (0 : Int)), .int (Int32.ofInt (0 : Int)), .int (Int32.ofInt (0 : Int)), .null])), (q1, .inr (6, [.int (Int32.ofInt (4 : Int)), .int (Int32.ofInt (0 : Int)), .ref q2, .ref q3, .ref q4, .ref q5, .ref q6])), (q2, .inl (G 1, 7, .inl (zA (fun _ => (0 : Int))))), (q3, .inl (G 1, 5, .inl (zA (fun _ => (0 : Int))))), (q4, .inl (G 1, 5, .inl (zA (fun _ => (0 : Int))))), (q5, .inl (G 1, 5, .inl (zA (fun _ => (0 : Int))))), (q6, .inl (G 1, 35, .inl (zA (fun _ => (0 : Int))))), (q7, .inr (8, [.ref q8, .ref q9, .ref q10, .ref q11, .ref q12, .int (Int32.ofInt (0 : Int)), .int (Int32.ofInt (0 : Int)), .int (Int32.ofInt (0 : Int)), .int (Int32.ofInt (0 : Int))])), (q8, .inl (G 1, 7, .inl (zA (fun _ => (0 : Int))))), (q9, .inl (G 1, 7, .inl (zA (fun _ => (0 : Int))))), (q10, .inl (G 1, 7, .inl (zA u_fill0_0))), (q11, .inl (G 1, 7, .inl (zA (fun _ => (0 : Int))))), (q12, .inl (G 1, 6, .inl (zA (fun _ => (0 : Int)))))] := hD
  refine lv_aload_n hx hb dX10_init_51 rfl (lv_at hl 0 rfl) ?_
  refine lv_bipush (v := (Int32.ofInt (7 : Int))) hx hb dX10_init_52 (by decide) ?_
  refine va_newa (atype := .int) (ty := .int) (N' := 7) (a0 := (7, .inl (zA (fun _ => (0 : Int))))) hx hb (hts _ mcX10_init_22) rfl hK hP hD hS hA (fun _ => rfl) (by decide) (by decide) (Nat.le_of_ble_eq_true rfl) (Nat.le_of_ble_eq_true rfl) (Nat.le_of_ble_eq_true rfl) dX10_init_54 (fun q13 cA H hK2 hP hD hS => ?_)
  obtain rfl : G 1 = cA := cA_int hK2 (i := 1) (j := 6) rfl rfl
  clear hK2
  have hP : va_P D vwCl [(a_p0, .inr (10, [.null, .ref q1, .ref q7, .int (Int32.ofInt (0 : Int)), .int (Int32.ofInt (0 : Int)), .int (Int32.ofInt (0 : Int)), .int (Int32.ofInt (0 : Int)), .int (Int32.ofInt (0 : Int)), .null])), (q1, .inr (6, [.int (Int32.ofInt (4 : Int)), .int (Int32.ofInt (0 : Int)), .ref q2, .ref q3, .ref q4, .ref q5, .ref q6])), (q2, .inl (G 1, 7, .inl (zA (fun _ => (0 : Int))))), (q3, .inl (G 1, 5, .inl (zA (fun _ => (0 : Int))))), (q4, .inl (G 1, 5, .inl (zA (fun _ => (0 : Int))))), (q5, .inl (G 1, 5, .inl (zA (fun _ => (0 : Int))))), (q6, .inl (G 1, 35, .inl (zA (fun _ => (0 : Int))))), (q7, .inr (8, [.ref q8, .ref q9, .ref q10, .ref q11, .ref q12, .int (Int32.ofInt (0 : Int)), .int (Int32.ofInt (0 : Int)), .int (Int32.ofInt (0 : Int)), .int (Int32.ofInt (0 : Int))])), (q8, .inl (G 1, 7, .inl (zA (fun _ => (0 : Int))))), (q9, .inl (G 1, 7, .inl (zA (fun _ => (0 : Int))))), (q10, .inl (G 1, 7, .inl (zA u_fill0_0))), (q11, .inl (G 1, 7, .inl (zA (fun _ => (0 : Int))))), (q12, .inl (G 1, 6, .inl (zA (fun _ => (0 : Int))))), (q13, .inl (G 1, 7, .inl (zA (fun _ => (0 : Int)))))] H := hP
  have hD : va_D A [(a_p0, .inr (10, [.null, .ref q1, .ref q7, .int (Int32.ofInt (0 : Int)), .int (Int32.ofInt (0 : Int)), .int (Int32.ofInt (0 : Int)), .int (Int32.ofInt (0 : Int)), .int (Int32.ofInt (0 : Int)), .null])), (q1, .inr (6, [.int (Int32.ofInt (4 : Int)), .int (Int32.ofInt (0 : Int)), .ref q2, .ref q3, .ref q4, .ref q5, .ref q6])), (q2, .inl (G 1, 7, .inl (zA (fun _ => (0 : Int))))), (q3, .inl (G 1, 5, .inl (zA (fun _ => (0 : Int))))), (q4, .inl (G 1, 5, .inl (zA (fun _ => (0 : Int))))), (q5, .inl (G 1, 5, .inl (zA (fun _ => (0 : Int))))), (q6, .inl (G 1, 35, .inl (zA (fun _ => (0 : Int))))), (q7, .inr (8, [.ref q8, .ref q9, .ref q10, .ref q11, .ref q12, .int (Int32.ofInt (0 : Int)), .int (Int32.ofInt (0 : Int)), .int (Int32.ofInt (0 : Int)), .int (Int32.ofInt (0 : Int))])), (q8, .inl (G 1, 7, .inl (zA (fun _ => (0 : Int))))), (q9, .inl (G 1, 7, .inl (zA (fun _ => (0 : Int))))), (q10, .inl (G 1, 7, .inl (zA u_fill0_0))), (q11, .inl (G 1, 7, .inl (zA (fun _ => (0 : Int))))), (q12, .inl (G 1, 6, .inl (zA (fun _ => (0 : Int))))), (q13, .inl (G 1, 7, .inl (zA (fun _ => (0 : Int)))))] := hD
  refine va_putF (D := D) (ci := 10) (v := .ref q13) (ty := .array .int) (C := RX10) (T := TX10) (N := 9) hx hb hts icX10_init_X10 tyX10 tyX10_ok nmX10 hown hK hP hD hS 0 rfl rfl 8 (by decide) (hts _ mcX10_init_23) (fun _ h9 => h9) rfl hin rfl (by decide +kernel) rfl rfl (Nat.le_of_ble_eq_true rfl) dX10_init_56 (fun H locs hP hD hS => ?_)
  have hP : va_P D vwCl [(a_p0, .inr (10, [.null, .ref q1, .ref q7, .int (Int32.ofInt (0 : Int)), .int (Int32.ofInt (0 : Int)), .int (Int32.ofInt (0 : Int)), .int (Int32.ofInt (0 : Int)), .int (Int32.ofInt (0 : Int)), .ref q13])), (q1, .inr (6, [.int (Int32.ofInt (4 : Int)), .int (Int32.ofInt (0 : Int)), .ref q2, .ref q3, .ref q4, .ref q5, .ref q6])), (q2, .inl (G 1, 7, .inl (zA (fun _ => (0 : Int))))), (q3, .inl (G 1, 5, .inl (zA (fun _ => (0 : Int))))), (q4, .inl (G 1, 5, .inl (zA (fun _ => (0 : Int))))), (q5, .inl (G 1, 5, .inl (zA (fun _ => (0 : Int))))), (q6, .inl (G 1, 35, .inl (zA (fun _ => (0 : Int))))), (q7, .inr (8, [.ref q8, .ref q9, .ref q10, .ref q11, .ref q12, .int (Int32.ofInt (0 : Int)), .int (Int32.ofInt (0 : Int)), .int (Int32.ofInt (0 : Int)), .int (Int32.ofInt (0 : Int))])), (q8, .inl (G 1, 7, .inl (zA (fun _ => (0 : Int))))), (q9, .inl (G 1, 7, .inl (zA (fun _ => (0 : Int))))), (q10, .inl (G 1, 7, .inl (zA u_fill0_0))), (q11, .inl (G 1, 7, .inl (zA (fun _ => (0 : Int))))), (q12, .inl (G 1, 6, .inl (zA (fun _ => (0 : Int))))), (q13, .inl (G 1, 7, .inl (zA (fun _ => (0 : Int)))))] H := hP
  have hD : va_D A [(a_p0, .inr (10, [.null, .ref q1, .ref q7, .int (Int32.ofInt (0 : Int)), .int (Int32.ofInt (0 : Int)), .int (Int32.ofInt (0 : Int)), .int (Int32.ofInt (0 : Int)), .int (Int32.ofInt (0 : Int)), .ref q13])), (q1, .inr (6, [.int (Int32.ofInt (4 : Int)), .int (Int32.ofInt (0 : Int)), .ref q2, .ref q3, .ref q4, .ref q5, .ref q6])), (q2, .inl (G 1, 7, .inl (zA (fun _ => (0 : Int))))), (q3, .inl (G 1, 5, .inl (zA (fun _ => (0 : Int))))), (q4, .inl (G 1, 5, .inl (zA (fun _ => (0 : Int))))), (q5, .inl (G 1, 5, .inl (zA (fun _ => (0 : Int))))), (q6, .inl (G 1, 35, .inl (zA (fun _ => (0 : Int))))), (q7, .inr (8, [.ref q8, .ref q9, .ref q10, .ref q11, .ref q12, .int (Int32.ofInt (0 : Int)), .int (Int32.ofInt (0 : Int)), .int (Int32.ofInt (0 : Int)), .int (Int32.ofInt (0 : Int))])), (q8, .inl (G 1, 7, .inl (zA (fun _ => (0 : Int))))), (q9, .inl (G 1, 7, .inl (zA (fun _ => (0 : Int))))), (q10, .inl (G 1, 7, .inl (zA u_fill0_0))), (q11, .inl (G 1, 7, .inl (zA (fun _ => (0 : Int))))), (q12, .inl (G 1, 6, .inl (zA (fun _ => (0 : Int))))), (q13, .inl (G 1, 7, .inl (zA (fun _ => (0 : Int)))))] := hD
  refine lv_aload_n hx hb dX10_init_59 rfl (lv_at hl 0 rfl) ?_
  refine lv_aload_n hx hb dX10_init_60 rfl (lv_at hl 1 rfl) ?_
  refine va_putF (D := D) (ci := 10) (v := .ref a_p1) (ty := .object "LadleKings$Tape") (C := RX10) (T := TX10) (N := 9) hx hb hts icX10_init_X10 tyX10 tyX10_ok nmX10 hown hK hP hD hS 0 rfl rfl 0 (by decide) (hts _ mcX10_init_24) (fun _ h9 => h9) rfl hin rfl (by decide +kernel) rfl rfl (Nat.le_of_ble_eq_true rfl) dX10_init_61 (fun H locs hP hD hS => ?_)
  have hP : va_P D vwCl [(a_p0, .inr (10, [.ref a_p1, .ref q1, .ref q7, .int (Int32.ofInt (0 : Int)), .int (Int32.ofInt (0 : Int)), .int (Int32.ofInt (0 : Int)), .int (Int32.ofInt (0 : Int)), .int (Int32.ofInt (0 : Int)), .ref q13])), (q1, .inr (6, [.int (Int32.ofInt (4 : Int)), .int (Int32.ofInt (0 : Int)), .ref q2, .ref q3, .ref q4, .ref q5, .ref q6])), (q2, .inl (G 1, 7, .inl (zA (fun _ => (0 : Int))))), (q3, .inl (G 1, 5, .inl (zA (fun _ => (0 : Int))))), (q4, .inl (G 1, 5, .inl (zA (fun _ => (0 : Int))))), (q5, .inl (G 1, 5, .inl (zA (fun _ => (0 : Int))))), (q6, .inl (G 1, 35, .inl (zA (fun _ => (0 : Int))))), (q7, .inr (8, [.ref q8, .ref q9, .ref q10, .ref q11, .ref q12, .int (Int32.ofInt (0 : Int)), .int (Int32.ofInt (0 : Int)), .int (Int32.ofInt (0 : Int)), .int (Int32.ofInt (0 : Int))])), (q8, .inl (G 1, 7, .inl (zA (fun _ => (0 : Int))))), (q9, .inl (G 1, 7, .inl (zA (fun _ => (0 : Int))))), (q10, .inl (G 1, 7, .inl (zA u_fill0_0))), (q11, .inl (G 1, 7, .inl (zA (fun _ => (0 : Int))))), (q12, .inl (G 1, 6, .inl (zA (fun _ => (0 : Int))))), (q13, .inl (G 1, 7, .inl (zA (fun _ => (0 : Int)))))] H := hP
  have hD : va_D A [(a_p0, .inr (10, [.ref a_p1, .ref q1, .ref q7, .int (Int32.ofInt (0 : Int)), .int (Int32.ofInt (0 : Int)), .int (Int32.ofInt (0 : Int)), .int (Int32.ofInt (0 : Int)), .int (Int32.ofInt (0 : Int)), .ref q13])), (q1, .inr (6, [.int (Int32.ofInt (4 : Int)), .int (Int32.ofInt (0 : Int)), .ref q2, .ref q3, .ref q4, .ref q5, .ref q6])), (q2, .inl (G 1, 7, .inl (zA (fun _ => (0 : Int))))), (q3, .inl (G 1, 5, .inl (zA (fun _ => (0 : Int))))), (q4, .inl (G 1, 5, .inl (zA (fun _ => (0 : Int))))), (q5, .inl (G 1, 5, .inl (zA (fun _ => (0 : Int))))), (q6, .inl (G 1, 35, .inl (zA (fun _ => (0 : Int))))), (q7, .inr (8, [.ref q8, .ref q9, .ref q10, .ref q11, .ref q12, .int (Int32.ofInt (0 : Int)), .int (Int32.ofInt (0 : Int)), .int (Int32.ofInt (0 : Int)), .int (Int32.ofInt (0 : Int))])), (q8, .inl (G 1, 7, .inl (zA (fun _ => (0 : Int))))), (q9, .inl (G 1, 7, .inl (zA (fun _ => (0 : Int))))), (q10, .inl (G 1, 7, .inl (zA u_fill0_0))), (q11, .inl (G 1, 7, .inl (zA (fun _ => (0 : Int))))), (q12, .inl (G 1, 6, .inl (zA (fun _ => (0 : Int))))), (q13, .inl (G 1, 7, .inl (zA (fun _ => (0 : Int)))))] := hD
  rw [hQ]
  exact W.vret hx hb hr (fun t ht hW => ⟨⟨(), rfl, trivial, q1, q2, q3, q4, q5, q6, q7, q8, q9, q10, q11, q12, q13, by rw [ht]; exact hP, va_K.moved hW.alike hK, hD⟩, hS.F ht⟩) hS.2.2 dX10_init_64
