noncomputable def B_J7_fill_d0a16_6 (z2 : Int) (n_p0 : Nat) (x1 : Int) (again6 : Int → (Int → Int) → Option ((Int → Int))) (z3 : Int) (w4 : (Int → Int)) : Option ((Int → Int)) := (ck (z_r32 z3) (ck (z_r32 z2) (if z2 ≤ z3 then (some w4) else (ck (z_ix z3 n_p0) (bnd (z_up w4 z3 x1) (fun (w8 : (Int → Int)) => (bnd (z3 + (1 : Int)) (fun (z9 : Int) => (again6 z9 w8)))))))))
noncomputable def f_J7_fill_d0a16 (n_p0 : Nat) (v_p0 : (Int → Int)) (x1 : Int) : Option ((Int → Int)) := (bnd (0 : Int) (fun (z1 : Int) => (bnd ((n_p0 : Nat) : Int) (fun (z2 : Int) => (lq2 (B_J7_fill_d0a16_6 z2 n_p0 x1) 1000 z1 v_p0)))))
abbrev rm_J7_fill_d0a16 : Room := { frames := 0, cells := 0, slots := 0, locals := 0 }
set_option maxHeartbeats 8000000 in
set_option maxRecDepth 100000 in
theorem c_J7_fill_d0a16 (l : Launch) (D : va_G) (G : Nat → ClassId) (sz : Nat) (a_p0 : Nat) (n_p0 : Nat) (v_p0 : (Int → Int)) (x1 : Int) (o_v_p0 : (Int → Int)) (hf : f_J7_fill_d0a16 n_p0 v_p0 x1 = some o_v_p0) : Met l yJ7_fill_d0a16 wsJ7_fill_d0a16 rm_J7_fill_d0a16 (pcG D G [.ref a_p0, .long (Int64.ofInt x1)] sz [(a_p0, .inl (G 2, n_p0, .inr (.inl (zL v_p0))))]) (qcV D G [(a_p0, .inl (G 2, n_p0, .inr (.inl (zL o_v_p0))))] (va_A [(a_p0, .inl (G 2, n_p0, .inr (.inl (zL v_p0))))] sz)) 0 0 (va_A [(a_p0, .inl (G 2, n_p0, .inr (.inl (zL v_p0))))] sz) := by
  refine Met.ofW (cc := cJ7_fill_d0a16) (maxL := 5) (ret := none) (by decide) rfl ?_
  intro p e s m args below meth c s₁ B hml hv
  obtain ⟨rfl, hsz, hP, hK, hD0⟩ := hv
  have hx := B.exec
  have hb := B.bytes
  have hr := B.returns
  have hts := atoms_spec (ws := wsJ7_fill_d0a16) B.pre
  have hown : s.vm.findClass RJ7 = some m.cls := findClass_of_methodNamed B.named
  have hlocks := B.notSynchronized
  subst hsz
  have hD := hD0.self (sz := s.heap.size)
  generalize hAe : va_A [(a_p0, .inl (G 2, n_p0, .inr (.inl (zL v_p0))))] s.heap.size = A at hD ⊢
  have hA : ∀ q : Nat, s.heap.size ≤ q → A q := fun q h => by rw [← hAe]; exact Or.inr h
  clear hAe hD0
  have hS : va_S A s.heap s.heap [] := va_S.rf
  have hl := lv_entry ([.ref a_p0, .long (Int64.ofInt x1)]) (n := 5) (Nat.le_of_ble_eq_true rfl)
  rw [lg_entry_eq]
  generalize (lg_sl ([.ref a_p0, .long (Int64.ofInt x1)]) ++ List.replicate (5 - (lg_sl ([.ref a_p0, .long (Int64.ofInt x1)])).length) Slot.unset).toArray = ls at hl ⊢
  have hl : lv_has ls 5 [(0, .ref a_p0), (1, .long (Int64.ofInt x1))] := hl
  refine W_nameQ (fun Q hQ => ?_)
  obtain ⟨H, hH⟩ : ∃ H, H = s.heap := ⟨_, rfl⟩
  replace hS : va_S A s.heap H [] := by rw [hH]; exact hS
  replace hP : va_P D vwCl [(a_p0, .inl (G 2, n_p0, .inr (.inl (zL v_p0))))] H := by rw [hH]; exact hP
  rw [← hH]
  clear hH
  unfold f_J7_fill_d0a16 at hf
  refine lv_iconst (v := Int32.ofInt (0 : Int)) hx hb dJ7_fill_d0a16_0 (by decide) ?_
  refine z_topi (fun z1 ez => ?_)
  replace hf := bnd_s hf ez
  clear ez
  refine lv_istore_n (lv' := [(3, .int (Int32.ofInt z1)), (0, .ref a_p0), (1, .long (Int64.ofInt x1))]) hx hb dJ7_fill_d0a16_1 rfl hl (by decide) rfl (fun ls hl => ?_)
  refine lv_aload_n hx hb dJ7_fill_d0a16_2 rfl (lv_at hl 1 rfl) ?_
  refine va_alen (v := Int32.ofInt ((n_p0 : Nat) : Int)) hx hb hK hP 0 2 rfl rfl (z_len _) dJ7_fill_d0a16_3 ?_
  refine z_topi (fun z2 ez => ?_)
  replace hf := bnd_s hf ez
  clear ez
  refine lv_istore (lv' := [(4, .int (Int32.ofInt z2)), (3, .int (Int32.ofInt z1)), (0, .ref a_p0), (1, .long (Int64.ofInt x1))]) hx hb dJ7_fill_d0a16_4 hl (by decide) rfl (fun ls hl => ?_)
  have hq := lq2_i hf
  clear hf
  obtain ⟨B5, eB5, NB5, hf⟩ := hq
  have hB5 : ∀ (n : Nat) (z3 : Int) (w4 : (Int → Int)) (ls : Array Slot) (H : Heap) (locs : List Loc), lv_has ls 5 [(4, .int (Int32.ofInt z2)), (3, .int (Int32.ofInt z3)), (0, .ref a_p0), (1, .long (Int64.ofInt x1))] → va_P D vwCl [(a_p0, .inl (G 2, n_p0, .inr (.inl (zL w4))))] H → va_D A [(a_p0, .inl (G 2, n_p0, .inr (.inl (zL w4))))] → va_S A s.heap H locs → lq2 B5 n z3 w4 = some o_v_p0 → W p l e rm_J7_fill_d0a16 s m ([.ref a_p0, .long (Int64.ofInt x1)] : List Value).toArray below meth c H locs 0 0 Q (F0 m 6 ls []) := by
    clear hf hl hP hD hS
    intro n
    induction n with
    | zero =>
      intro z3 w4 ls H locs hl hP hD hS hf
      exact (lq2_0 hf).elim
    | succ n ih6 =>
      intro z3 w4 ls H locs hl hP hD hS hf
      replace hf := lq2_s eB5 hf
      unfold B_J7_fill_d0a16_6 at hf
      refine lv_iload_n hx hb dJ7_fill_d0a16_6 rfl (lv_at hl 1 rfl) ?_
      refine lv_iload hx hb dJ7_fill_d0a16_7 (lv_at hl 0 rfl) ?_
      have hr5 := ck_c hf
      replace hf := ck_r hf
      have hr6 := ck_c hf
      replace hf := ck_r hf
      refine lv_icmp_ge (tgt := 22) hx hb dJ7_fill_d0a16_9 (by decide) (fun cc => ?_) (fun cc => ?_)
      ·
        replace hf := ite_t ((z_le hr6 hr5).mp cc) hf
        clear cc
        obtain rfl := ou1 hf
        rw [hQ]
        exact W.vret hx hb hr (fun t ht hW => ⟨⟨(), rfl, trivial, by rw [ht]; exact hP, va_K.moved hW.alike hK, hD⟩, hS.F ht⟩) hS.2.2 dJ7_fill_d0a16_22
      ·
        replace hf := ite_f (fun h9 => cc ((z_le hr6 hr5).mpr h9)) hf
        clear cc
        refine lv_aload_n hx hb dJ7_fill_d0a16_12 rfl (lv_at hl 2 rfl) ?_
        refine lv_iload_n hx hb dJ7_fill_d0a16_13 rfl (lv_at hl 1 rfl) ?_
        refine lv_lload_n hx hb dJ7_fill_d0a16_14 rfl (lv_at hl 3 rfl) ?_
        have hc := ck_c hf
        replace hf := ck_r hf
        refine zs_last (wf := fun w8 => [(a_p0, .inl (G 2, n_p0, .inr (.inl (zL w8))))]) hx hb hK hP hD hS 0 2 rfl rfl hc dJ7_fill_d0a16_15 (fun _ => rfl) (fun w8 ez H locs hP hD hS => ?_)
        replace hf := bnd_s hf ez
        clear ez hc
        obtain ⟨z9, ez⟩ : ∃ y : Int, y = (z3 + (1 : Int)) := ⟨_, rfl⟩
        replace hf := bnd_s hf ez
        refine lv_iinc (v := Int32.ofInt z9) (lv' := [(3, .int (Int32.ofInt z9)), (4, .int (Int32.ofInt z2)), (0, .ref a_p0), (1, .long (Int64.ofInt x1))]) hx hb dJ7_fill_d0a16_16 hl (k := 1) rfl (by rw [ez]; exact (Int32.ofInt_add _ _).symm) (by decide) rfl (fun ls hl => ?_)
        clear ez
        refine lv_goto (tgt := 6) hx hb dJ7_fill_d0a16_19 (by decide) ?_
        exact ih6 _ _ _ _ _ (lv_sub hl [1, 0, 2, 3] rfl) hP hD hS hf
  exact hB5 _ _ _ _ _ _ (lv_sub hl [0, 1, 2, 3] rfl) hP hD hS hf

noncomputable def f_X3_begin (i_p0_kitchen_rules_seats : Int) (i_p0_kitchen_state_bone : Int) (i_p0_kitchen_state_king : Int) (v_p0_kitchen_state_friends : (Int → Int)) (v_p0_kitchen_places : (Int → Int)) (v_p0_kitchen_holders : (Int → Int)) (v_p0_rows : (Int → Int)) : Option ((Int → Int) × (Int → Int) × (Int → Int)) := (bd2 (f_X2_serveAllKings i_p0_kitchen_rules_seats v_p0_kitchen_state_friends v_p0_kitchen_places v_p0_kitchen_holders) (fun (w1 : (Int → Int)) (w2 : (Int → Int)) => (bd1 (f_J7_fill_d0a16 49 v_p0_rows (0 : Int)) (fun (w3 : (Int → Int)) => (ck (z_ix ((i_p0_kitchen_state_king * (7 : Int)) + i_p0_kitchen_state_bone) 49) (bnd (z_up w3 ((i_p0_kitchen_state_king * (7 : Int)) + i_p0_kitchen_state_bone) (1 : Int)) (fun (w4 : (Int → Int)) => (some (w1, w2, w4)))))))))
abbrev rm_X3_begin : Room := { frames := 3, cells := 0, slots := 0, locals := 70 }
theorem inX3_begin_X3 : ∀ w ∈ wsX30, w ∈ wsX3_begin := by first | exact fun w h => List.mem_cons_of_mem _ (List.mem_append_left _ (List.mem_append_left _ (List.mem_append_left _ (List.mem_append_right _ h)))) | decide +kernel
theorem mwX3_begin_1 : Cond.fieldLink RX3 21 "LadleKings$Luck" "kitchen" "LLadleKings$Kitchen;" ∈ wsX3_begin := by first | exact List.mem_of_getElem? (i := 1) rfl | decide +kernel
theorem mwX3_begin_2 : Cond.fieldLink RX3 11 "LadleKings$Luck" "rows" "[J" ∈ wsX3_begin := by first | exact List.mem_of_getElem? (i := 2) rfl | decide +kernel
theorem inX3_begin_X2 : ∀ w ∈ wsX20, w ∈ wsX3_begin := by first | exact fun w h => List.mem_cons_of_mem _ (List.mem_append_left _ (List.mem_append_left _ (List.mem_append_right _ h))) | decide +kernel
theorem mwX3_begin_4 : Cond.fieldLink RX3 36 "LadleKings$Kitchen" "state" "LLadleKings$State;" ∈ wsX3_begin := by first | exact List.mem_of_getElem? (i := 3) rfl | decide +kernel
theorem inX3_begin_X8 : ∀ w ∈ wsX80, w ∈ wsX3_begin := by first | exact fun w h => List.mem_cons_of_mem _ (List.mem_append_left _ (List.mem_append_right _ h)) | decide +kernel
theorem mwX3_begin_6 : Cond.fieldLink RX3 42 "LadleKings$State" "king" "I" ∈ wsX3_begin := by first | exact List.mem_of_getElem? (i := 4) rfl | decide +kernel
theorem mwX3_begin_7 : Cond.fieldLink RX3 57 "LadleKings$State" "bone" "I" ∈ wsX3_begin := by first | exact List.mem_of_getElem? (i := 5) rfl | decide +kernel
set_option maxHeartbeats 8000000 in
set_option maxRecDepth 100000 in
theorem c_X3_begin (l : Launch) (D : va_G) (G : Nat → ClassId) (sz : Nat) (a_p0 : Nat) (a_p0_kitchen : Nat) (a_p0_rows : Nat) (a_p0_later : Nat) (a_p0_finds : Nat) (a_p0_kitchen_rules : Nat) (a_p0_kitchen_state : Nat) (a_p0_kitchen_places : Nat) (a_p0_kitchen_holders : Nat) (a_p0_kitchen_stirred : Nat) (a_p0_kitchen_rules_need : Nat) (a_p0_kitchen_rules_kind : Nat) (a_p0_kitchen_rules_first : Nat) (a_p0_kitchen_rules_second : Nat) (a_p0_kitchen_rules_after : Nat) (a_p0_kitchen_state_pieces : Nat) (a_p0_kitchen_state_friends : Nat) (a_p0_kitchen_state_spoons : Nat) (a_p0_kitchen_state_eaten : Nat) (a_p0_kitchen_state_seen : Nat) (i_p0_kitchen_rules_seats : Int) (i_p0_kitchen_rules_stirs : Int) (i_p0_kitchen_state_seenDays : Int) (i_p0_kitchen_state_bone : Int) (i_p0_kitchen_state_king : Int) (i_p0_kitchen_state_days : Int) (v_p0_kitchen_state_friends : (Int → Int)) (v_p0_kitchen_places : (Int → Int)) (v_p0_kitchen_holders : (Int → Int)) (v_p0_rows : (Int → Int)) (o_v_p0_kitchen_places : (Int → Int)) (o_v_p0_kitchen_holders : (Int → Int)) (o_v_p0_rows : (Int → Int)) (hf : f_X3_begin i_p0_kitchen_rules_seats i_p0_kitchen_state_bone i_p0_kitchen_state_king v_p0_kitchen_state_friends v_p0_kitchen_places v_p0_kitchen_holders v_p0_rows = some (o_v_p0_kitchen_places, o_v_p0_kitchen_holders, o_v_p0_rows)) : Met l yX3_begin wsX3_begin rm_X3_begin (pcG D G [.ref a_p0] sz [(a_p0, .inr (3, [.ref a_p0_kitchen, .ref a_p0_rows, .ref a_p0_later, .ref a_p0_finds])), (a_p0_kitchen, .inr (2, [.ref a_p0_kitchen_rules, .ref a_p0_kitchen_state, .ref a_p0_kitchen_places, .ref a_p0_kitchen_holders, .ref a_p0_kitchen_stirred])), (a_p0_kitchen_rules, .inr (6, [.int (Int32.ofInt i_p0_kitchen_rules_seats), .int (Int32.ofInt i_p0_kitchen_rules_stirs), .ref a_p0_kitchen_rules_need, .ref a_p0_kitchen_rules_kind, .ref a_p0_kitchen_rules_first, .ref a_p0_kitchen_rules_second, .ref a_p0_kitchen_rules_after])), (a_p0_kitchen_state, .inr (8, [.ref a_p0_kitchen_state_pieces, .ref a_p0_kitchen_state_friends, .ref a_p0_kitchen_state_spoons, .ref a_p0_kitchen_state_eaten, .ref a_p0_kitchen_state_seen, .int (Int32.ofInt i_p0_kitchen_state_seenDays), .int (Int32.ofInt i_p0_kitchen_state_bone), .int (Int32.ofInt i_p0_kitchen_state_king), .int (Int32.ofInt i_p0_kitchen_state_days)])), (a_p0_kitchen_state_friends, .inl (G 1, 7, .inl (zA v_p0_kitchen_state_friends))), (a_p0_kitchen_places, .inl (G 1, 49, .inl (zA v_p0_kitchen_places))), (a_p0_kitchen_holders, .inl (G 1, 49, .inl (zA v_p0_kitchen_holders))), (a_p0_rows, .inl (G 2, 49, .inr (.inl (zL v_p0_rows))))]) (qcV D G [(a_p0, .inr (3, [.ref a_p0_kitchen, .ref a_p0_rows, .ref a_p0_later, .ref a_p0_finds])), (a_p0_kitchen, .inr (2, [.ref a_p0_kitchen_rules, .ref a_p0_kitchen_state, .ref a_p0_kitchen_places, .ref a_p0_kitchen_holders, .ref a_p0_kitchen_stirred])), (a_p0_kitchen_rules, .inr (6, [.int (Int32.ofInt i_p0_kitchen_rules_seats), .int (Int32.ofInt i_p0_kitchen_rules_stirs), .ref a_p0_kitchen_rules_need, .ref a_p0_kitchen_rules_kind, .ref a_p0_kitchen_rules_first, .ref a_p0_kitchen_rules_second, .ref a_p0_kitchen_rules_after])), (a_p0_kitchen_state, .inr (8, [.ref a_p0_kitchen_state_pieces, .ref a_p0_kitchen_state_friends, .ref a_p0_kitchen_state_spoons, .ref a_p0_kitchen_state_eaten, .ref a_p0_kitchen_state_seen, .int (Int32.ofInt i_p0_kitchen_state_seenDays), .int (Int32.ofInt i_p0_kitchen_state_bone), .int (Int32.ofInt i_p0_kitchen_state_king), .int (Int32.ofInt i_p0_kitchen_state_days)])), (a_p0_kitchen_state_friends, .inl (G 1, 7, .inl (zA v_p0_kitchen_state_friends))), (a_p0_kitchen_places, .inl (G 1, 49, .inl (zA o_v_p0_kitchen_places))), (a_p0_kitchen_holders, .inl (G 1, 49, .inl (zA o_v_p0_kitchen_holders))), (a_p0_rows, .inl (G 2, 49, .inr (.inl (zL o_v_p0_rows))))] (va_A [(a_p0, .inr (3, [.ref a_p0_kitchen, .ref a_p0_rows, .ref a_p0_later, .ref a_p0_finds])), (a_p0_kitchen, .inr (2, [.ref a_p0_kitchen_rules, .ref a_p0_kitchen_state, .ref a_p0_kitchen_places, .ref a_p0_kitchen_holders, .ref a_p0_kitchen_stirred])), (a_p0_kitchen_rules, .inr (6, [.int (Int32.ofInt i_p0_kitchen_rules_seats), .int (Int32.ofInt i_p0_kitchen_rules_stirs), .ref a_p0_kitchen_rules_need, .ref a_p0_kitchen_rules_kind, .ref a_p0_kitchen_rules_first, .ref a_p0_kitchen_rules_second, .ref a_p0_kitchen_rules_after])), (a_p0_kitchen_state, .inr (8, [.ref a_p0_kitchen_state_pieces, .ref a_p0_kitchen_state_friends, .ref a_p0_kitchen_state_spoons, .ref a_p0_kitchen_state_eaten, .ref a_p0_kitchen_state_seen, .int (Int32.ofInt i_p0_kitchen_state_seenDays), .int (Int32.ofInt i_p0_kitchen_state_bone), .int (Int32.ofInt i_p0_kitchen_state_king), .int (Int32.ofInt i_p0_kitchen_state_days)])), (a_p0_kitchen_state_friends, .inl (G 1, 7, .inl (zA v_p0_kitchen_state_friends))), (a_p0_kitchen_places, .inl (G 1, 49, .inl (zA v_p0_kitchen_places))), (a_p0_kitchen_holders, .inl (G 1, 49, .inl (zA v_p0_kitchen_holders))), (a_p0_rows, .inl (G 2, 49, .inr (.inl (zL v_p0_rows))))] sz)) 0 0 (va_A [(a_p0, .inr (3, [.ref a_p0_kitchen, .ref a_p0_rows, .ref a_p0_later, .ref a_p0_finds])), (a_p0_kitchen, .inr (2, [.ref a_p0_kitchen_rules, .ref a_p0_kitchen_state, .ref a_p0_kitchen_places, .ref a_p0_kitchen_holders, .ref a_p0_kitchen_stirred])), (a_p0_kitchen_rules, .inr (6, [.int (Int32.ofInt i_p0_kitchen_rules_seats), .int (Int32.ofInt i_p0_kitchen_rules_stirs), .ref a_p0_kitchen_rules_need, .ref a_p0_kitchen_rules_kind, .ref a_p0_kitchen_rules_first, .ref a_p0_kitchen_rules_second, .ref a_p0_kitchen_rules_after])), (a_p0_kitchen_state, .inr (8, [.ref a_p0_kitchen_state_pieces, .ref a_p0_kitchen_state_friends, .ref a_p0_kitchen_state_spoons, .ref a_p0_kitchen_state_eaten, .ref a_p0_kitchen_state_seen, .int (Int32.ofInt i_p0_kitchen_state_seenDays), .int (Int32.ofInt i_p0_kitchen_state_bone), .int (Int32.ofInt i_p0_kitchen_state_king), .int (Int32.ofInt i_p0_kitchen_state_days)])), (a_p0_kitchen_state_friends, .inl (G 1, 7, .inl (zA v_p0_kitchen_state_friends))), (a_p0_kitchen_places, .inl (G 1, 49, .inl (zA v_p0_kitchen_places))), (a_p0_kitchen_holders, .inl (G 1, 49, .inl (zA v_p0_kitchen_holders))), (a_p0_rows, .inl (G 2, 49, .inr (.inl (zL v_p0_rows))))] sz) := by
  refine Met.ofW (cc := cX3_begin) (maxL := 1) (ret := none) (by decide) rfl ?_
  intro p e s m args below meth c s₁ B hml hv
  obtain ⟨rfl, hsz, hP, hK, hD0⟩ := hv
  have hx := B.exec
  have hb := B.bytes
  have hr := B.returns
  have hts := atoms_spec (ws := wsX3_begin) B.pre
  have hown : s.vm.findClass RX3 = some m.cls := findClass_of_methodNamed B.named
  have hlocks := B.notSynchronized
  subst hsz
  have hD := hD0.self (sz := s.heap.size)
  generalize hAe : va_A [(a_p0, .inr (3, [.ref a_p0_kitchen, .ref a_p0_rows, .ref a_p0_later, .ref a_p0_finds])), (a_p0_kitchen, .inr (2, [.ref a_p0_kitchen_rules, .ref a_p0_kitchen_state, .ref a_p0_kitchen_places, .ref a_p0_kitchen_holders, .ref a_p0_kitchen_stirred])), (a_p0_kitchen_rules, .inr (6, [.int (Int32.ofInt i_p0_kitchen_rules_seats), .int (Int32.ofInt i_p0_kitchen_rules_stirs), .ref a_p0_kitchen_rules_need, .ref a_p0_kitchen_rules_kind, .ref a_p0_kitchen_rules_first, .ref a_p0_kitchen_rules_second, .ref a_p0_kitchen_rules_after])), (a_p0_kitchen_state, .inr (8, [.ref a_p0_kitchen_state_pieces, .ref a_p0_kitchen_state_friends, .ref a_p0_kitchen_state_spoons, .ref a_p0_kitchen_state_eaten, .ref a_p0_kitchen_state_seen, .int (Int32.ofInt i_p0_kitchen_state_seenDays), .int (Int32.ofInt i_p0_kitchen_state_bone), .int (Int32.ofInt i_p0_kitchen_state_king), .int (Int32.ofInt i_p0_kitchen_state_days)])), (a_p0_kitchen_state_friends, .inl (G 1, 7, .inl (zA v_p0_kitchen_state_friends))), (a_p0_kitchen_places, .inl (G 1, 49, .inl (zA v_p0_kitchen_places))), (a_p0_kitchen_holders, .inl (G 1, 49, .inl (zA v_p0_kitchen_holders))), (a_p0_rows, .inl (G 2, 49, .inr (.inl (zL v_p0_rows))))] s.heap.size = A at hD ⊢
  have hA : ∀ q : Nat, s.heap.size ≤ q → A q := fun q h => by rw [← hAe]; exact Or.inr h
  clear hAe hD0
  have hS : va_S A s.heap s.heap [] := va_S.rf
  have hl := lv_entry ([.ref a_p0]) (n := 1) (Nat.le_of_ble_eq_true rfl)
  rw [lg_entry_eq]
  generalize (lg_sl ([.ref a_p0]) ++ List.replicate (1 - (lg_sl ([.ref a_p0])).length) Slot.unset).toArray = ls at hl ⊢
  have hl : lv_has ls 1 [(0, .ref a_p0)] := hl
  refine W_nameQ (fun Q hQ => ?_)
  obtain ⟨H, hH⟩ : ∃ H, H = s.heap := ⟨_, rfl⟩
  replace hS : va_S A s.heap H [] := by rw [hH]; exact hS
  replace hP : va_P D vwCl [(a_p0, .inr (3, [.ref a_p0_kitchen, .ref a_p0_rows, .ref a_p0_later, .ref a_p0_finds])), (a_p0_kitchen, .inr (2, [.ref a_p0_kitchen_rules, .ref a_p0_kitchen_state, .ref a_p0_kitchen_places, .ref a_p0_kitchen_holders, .ref a_p0_kitchen_stirred])), (a_p0_kitchen_rules, .inr (6, [.int (Int32.ofInt i_p0_kitchen_rules_seats), .int (Int32.ofInt i_p0_kitchen_rules_stirs), .ref a_p0_kitchen_rules_need, .ref a_p0_kitchen_rules_kind, .ref a_p0_kitchen_rules_first, .ref a_p0_kitchen_rules_second, .ref a_p0_kitchen_rules_after])), (a_p0_kitchen_state, .inr (8, [.ref a_p0_kitchen_state_pieces, .ref a_p0_kitchen_state_friends, .ref a_p0_kitchen_state_spoons, .ref a_p0_kitchen_state_eaten, .ref a_p0_kitchen_state_seen, .int (Int32.ofInt i_p0_kitchen_state_seenDays), .int (Int32.ofInt i_p0_kitchen_state_bone), .int (Int32.ofInt i_p0_kitchen_state_king), .int (Int32.ofInt i_p0_kitchen_state_days)])), (a_p0_kitchen_state_friends, .inl (G 1, 7, .inl (zA v_p0_kitchen_state_friends))), (a_p0_kitchen_places, .inl (G 1, 49, .inl (zA v_p0_kitchen_places))), (a_p0_kitchen_holders, .inl (G 1, 49, .inl (zA v_p0_kitchen_holders))), (a_p0_rows, .inl (G 2, 49, .inr (.inl (zL v_p0_rows))))] H := by rw [hH]; exact hP
  rw [← hH]
  clear hH
  unfold f_X3_begin at hf
  refine lv_aload_n hx hb dX3_begin_0 rfl (lv_at hl 0 rfl) ?_
  refine va_get (D := D) (ci := 3) (v := .ref a_p0_kitchen) (C := RX3) (T := TX3) (N := 4) hx hb hts inX3_begin_X3 hown hK hP 0 rfl rfl 0 (by decide) (hts _ mwX3_begin_1) (fun _ h9 => h9) rfl dX3_begin_1 ?_
  have hq := bd2_s hf
  clear hf
  obtain ⟨w1, w2, hcall, hf⟩ := hq
  refine gsV (ws' := [(a_p0, .inr (3, [.ref a_p0_kitchen, .ref a_p0_rows, .ref a_p0_later, .ref a_p0_finds])), (a_p0_kitchen, .inr (2, [.ref a_p0_kitchen_rules, .ref a_p0_kitchen_state, .ref a_p0_kitchen_places, .ref a_p0_kitchen_holders, .ref a_p0_kitchen_stirred])), (a_p0_kitchen_rules, .inr (6, [.int (Int32.ofInt i_p0_kitchen_rules_seats), .int (Int32.ofInt i_p0_kitchen_rules_stirs), .ref a_p0_kitchen_rules_need, .ref a_p0_kitchen_rules_kind, .ref a_p0_kitchen_rules_first, .ref a_p0_kitchen_rules_second, .ref a_p0_kitchen_rules_after])), (a_p0_kitchen_state, .inr (8, [.ref a_p0_kitchen_state_pieces, .ref a_p0_kitchen_state_friends, .ref a_p0_kitchen_state_spoons, .ref a_p0_kitchen_state_eaten, .ref a_p0_kitchen_state_seen, .int (Int32.ofInt i_p0_kitchen_state_seenDays), .int (Int32.ofInt i_p0_kitchen_state_bone), .int (Int32.ofInt i_p0_kitchen_state_king), .int (Int32.ofInt i_p0_kitchen_state_days)])), (a_p0_kitchen_state_friends, .inl (G 1, 7, .inl (zA v_p0_kitchen_state_friends))), (a_p0_kitchen_places, .inl (G 1, 49, .inl (zA w1))), (a_p0_kitchen_holders, .inl (G 1, 49, .inl (zA w2))), (a_p0_rows, .inl (G 2, 49, .inr (.inl (zL v_p0_rows))))]) (va_runV (As := []) (rest := []) ⟨hx, hb, hml, hown, hts⟩ (c_X2_serveAllKings (l := l) (D := D) (G := G) (sz := H.size) (a_p0 := a_p0_kitchen) (a_p0_rules := a_p0_kitchen_rules) (a_p0_state := a_p0_kitchen_state) (a_p0_places := a_p0_kitchen_places) (a_p0_holders := a_p0_kitchen_holders) (a_p0_stirred := a_p0_kitchen_stirred) (a_p0_rules_need := a_p0_kitchen_rules_need) (a_p0_rules_kind := a_p0_kitchen_rules_kind) (a_p0_rules_first := a_p0_kitchen_rules_first) (a_p0_rules_second := a_p0_kitchen_rules_second) (a_p0_rules_after := a_p0_kitchen_rules_after) (a_p0_state_pieces := a_p0_kitchen_state_pieces) (a_p0_state_friends := a_p0_kitchen_state_friends) (a_p0_state_spoons := a_p0_kitchen_state_spoons) (a_p0_state_eaten := a_p0_kitchen_state_eaten) (a_p0_state_seen := a_p0_kitchen_state_seen) (i_p0_rules_seats := i_p0_kitchen_rules_seats) (i_p0_rules_stirs := i_p0_kitchen_rules_stirs) (i_p0_state_seenDays := i_p0_kitchen_state_seenDays) (i_p0_state_bone := i_p0_kitchen_state_bone) (i_p0_state_king := i_p0_kitchen_state_king) (i_p0_state_days := i_p0_kitchen_state_days) (v_p0_state_friends := v_p0_kitchen_state_friends) (v_p0_places := v_p0_kitchen_places) (v_p0_holders := v_p0_kitchen_holders) (o_v_p0_places := w1) (o_v_p0_holders := w2) (hf := hcall)) (cwV 0 hts gX3_begin_X2_serveAllKings rfl rfl rfl hdV_yX2_serveAllKings_RX2 ⟨Nat.le_of_ble_eq_true rfl, Nat.le_of_ble_eq_true rfl⟩) (preG_V (ci := 2) (q := (RX2, TX2, 5)) (hP.sub [1, 2, 3, 4, 5, 6] rfl) (hD.sub [1, 2, 3, 4, 5, 6] rfl rfl) hK rfl rfl) rfl rfl hl.1 rfl (lv_room (Nat.le_of_ble_eq_true rfl)) dX3_begin_4 ⟨Nat.le_of_ble_eq_true rfl, Nat.le_of_ble_eq_true rfl⟩) hP hD hS hA [1, 2, 3, 4, 5, 6] rfl rfl rfl (fun H locs hP hD hS => ?_)
  clear hcall
  refine lv_aload_n hx hb dX3_begin_7 rfl (lv_at hl 0 rfl) ?_
  refine va_get (D := D) (ci := 3) (v := .ref a_p0_rows) (C := RX3) (T := TX3) (N := 4) hx hb hts inX3_begin_X3 hown hK hP 0 rfl rfl 1 (by decide) (hts _ mwX3_begin_2) (fun _ h9 => h9) rfl dX3_begin_8 ?_
  refine lv_lconst (v := Int64.ofInt (0 : Int)) hx hb dX3_begin_11 (by decide) ?_
  have hq := bd1_s hf
  clear hf
  obtain ⟨w3, hcall, hf⟩ := hq
  refine gsV (ws' := [(a_p0, .inr (3, [.ref a_p0_kitchen, .ref a_p0_rows, .ref a_p0_later, .ref a_p0_finds])), (a_p0_kitchen, .inr (2, [.ref a_p0_kitchen_rules, .ref a_p0_kitchen_state, .ref a_p0_kitchen_places, .ref a_p0_kitchen_holders, .ref a_p0_kitchen_stirred])), (a_p0_kitchen_rules, .inr (6, [.int (Int32.ofInt i_p0_kitchen_rules_seats), .int (Int32.ofInt i_p0_kitchen_rules_stirs), .ref a_p0_kitchen_rules_need, .ref a_p0_kitchen_rules_kind, .ref a_p0_kitchen_rules_first, .ref a_p0_kitchen_rules_second, .ref a_p0_kitchen_rules_after])), (a_p0_kitchen_state, .inr (8, [.ref a_p0_kitchen_state_pieces, .ref a_p0_kitchen_state_friends, .ref a_p0_kitchen_state_spoons, .ref a_p0_kitchen_state_eaten, .ref a_p0_kitchen_state_seen, .int (Int32.ofInt i_p0_kitchen_state_seenDays), .int (Int32.ofInt i_p0_kitchen_state_bone), .int (Int32.ofInt i_p0_kitchen_state_king), .int (Int32.ofInt i_p0_kitchen_state_days)])), (a_p0_kitchen_state_friends, .inl (G 1, 7, .inl (zA v_p0_kitchen_state_friends))), (a_p0_kitchen_places, .inl (G 1, 49, .inl (zA w1))), (a_p0_kitchen_holders, .inl (G 1, 49, .inl (zA w2))), (a_p0_rows, .inl (G 2, 49, .inr (.inl (zL w3))))]) (va_runS (As := [.ref a_p0_rows, .long (Int64.ofInt (0 : Int))]) (rest := []) ⟨hx, hb, hml, hown, hts⟩ (c_J7_fill_d0a16 (l := l) (D := D) (G := G) (sz := H.size) (a_p0 := a_p0_rows) (n_p0 := 49) (v_p0 := v_p0_rows) (x1 := (0 : Int)) (o_v_p0 := w3) (hf := hcall)) (va_cwS 2 hts gX3_begin_J7_fill_d0a16 rfl rfl rfl (by decide +kernel) ⟨Nat.le_of_ble_eq_true rfl, Nat.le_of_ble_eq_true rfl⟩) (preG_S (hP.sub [7] rfl) (hD.sub [7] rfl rfl) hK) rfl rfl hl.1 rfl (lv_room (Nat.le_of_ble_eq_true rfl)) dX3_begin_12 ⟨Nat.le_of_ble_eq_true rfl, Nat.le_of_ble_eq_true rfl⟩) hP hD hS hA [7] rfl rfl rfl (fun H locs hP hD hS => ?_)
  clear hcall
  refine lv_aload_n hx hb dX3_begin_15 rfl (lv_at hl 0 rfl) ?_
  refine va_get (D := D) (ci := 3) (v := .ref a_p0_rows) (C := RX3) (T := TX3) (N := 4) hx hb hts inX3_begin_X3 hown hK hP 0 rfl rfl 1 (by decide) (hts _ mwX3_begin_2) (fun _ h9 => h9) rfl dX3_begin_16 ?_
  refine lv_aload_n hx hb dX3_begin_19 rfl (lv_at hl 0 rfl) ?_
  refine va_get (D := D) (ci := 3) (v := .ref a_p0_kitchen) (C := RX3) (T := TX3) (N := 4) hx hb hts inX3_begin_X3 hown hK hP 0 rfl rfl 0 (by decide) (hts _ mwX3_begin_1) (fun _ h9 => h9) rfl dX3_begin_20 ?_
  refine va_get (D := D) (ci := 2) (v := .ref a_p0_kitchen_state) (C := RX2) (T := TX2) (N := 5) hx hb hts inX3_begin_X2 hown hK hP 1 rfl rfl 1 (by decide) (hts _ mwX3_begin_4) (fun _ h9 => h9) rfl dX3_begin_23 ?_
  refine va_get (D := D) (ci := 8) (v := .int (Int32.ofInt i_p0_kitchen_state_king)) (C := RX8) (T := TX8) (N := 9) hx hb hts inX3_begin_X8 hown hK hP 3 rfl rfl 7 (by decide) (hts _ mwX3_begin_6) (fun _ h9 => h9) rfl dX3_begin_26 ?_
  refine lv_bipush (v := Int32.ofInt (7 : Int)) hx hb dX3_begin_29 (by decide) ?_
  refine lv_imul hx hb dX3_begin_31 (z_ci (Int32.ofInt_mul i_p0_kitchen_state_king (7 : Int)) ?_)
  refine lv_aload_n hx hb dX3_begin_32 rfl (lv_at hl 0 rfl) ?_
  refine va_get (D := D) (ci := 3) (v := .ref a_p0_kitchen) (C := RX3) (T := TX3) (N := 4) hx hb hts inX3_begin_X3 hown hK hP 0 rfl rfl 0 (by decide) (hts _ mwX3_begin_1) (fun _ h9 => h9) rfl dX3_begin_33 ?_
  refine va_get (D := D) (ci := 2) (v := .ref a_p0_kitchen_state) (C := RX2) (T := TX2) (N := 5) hx hb hts inX3_begin_X2 hown hK hP 1 rfl rfl 1 (by decide) (hts _ mwX3_begin_4) (fun _ h9 => h9) rfl dX3_begin_36 ?_
  refine va_get (D := D) (ci := 8) (v := .int (Int32.ofInt i_p0_kitchen_state_bone)) (C := RX8) (T := TX8) (N := 9) hx hb hts inX3_begin_X8 hown hK hP 3 rfl rfl 6 (by decide) (hts _ mwX3_begin_7) (fun _ h9 => h9) rfl dX3_begin_39 ?_
  refine lv_iadd hx hb dX3_begin_42 (z_ci (Int32.ofInt_add (i_p0_kitchen_state_king * (7 : Int)) i_p0_kitchen_state_bone) ?_)
  refine lv_lconst (v := Int64.ofInt (1 : Int)) hx hb dX3_begin_43 (by decide) ?_
  have hc := ck_c hf
  replace hf := ck_r hf
  refine zs_last (wf := fun w4 => [(a_p0, .inr (3, [.ref a_p0_kitchen, .ref a_p0_rows, .ref a_p0_later, .ref a_p0_finds])), (a_p0_kitchen, .inr (2, [.ref a_p0_kitchen_rules, .ref a_p0_kitchen_state, .ref a_p0_kitchen_places, .ref a_p0_kitchen_holders, .ref a_p0_kitchen_stirred])), (a_p0_kitchen_rules, .inr (6, [.int (Int32.ofInt i_p0_kitchen_rules_seats), .int (Int32.ofInt i_p0_kitchen_rules_stirs), .ref a_p0_kitchen_rules_need, .ref a_p0_kitchen_rules_kind, .ref a_p0_kitchen_rules_first, .ref a_p0_kitchen_rules_second, .ref a_p0_kitchen_rules_after])), (a_p0_kitchen_state, .inr (8, [.ref a_p0_kitchen_state_pieces, .ref a_p0_kitchen_state_friends, .ref a_p0_kitchen_state_spoons, .ref a_p0_kitchen_state_eaten, .ref a_p0_kitchen_state_seen, .int (Int32.ofInt i_p0_kitchen_state_seenDays), .int (Int32.ofInt i_p0_kitchen_state_bone), .int (Int32.ofInt i_p0_kitchen_state_king), .int (Int32.ofInt i_p0_kitchen_state_days)])), (a_p0_kitchen_state_friends, .inl (G 1, 7, .inl (zA v_p0_kitchen_state_friends))), (a_p0_kitchen_places, .inl (G 1, 49, .inl (zA w1))), (a_p0_kitchen_holders, .inl (G 1, 49, .inl (zA w2))), (a_p0_rows, .inl (G 2, 49, .inr (.inl (zL w4))))]) hx hb hK hP hD hS 7 2 rfl rfl hc dX3_begin_44 (fun _ => rfl) (fun w4 ez H locs hP hD hS => ?_)
  replace hf := bnd_s hf ez
  clear ez hc
  obtain ⟨rfl, rfl, rfl⟩ := ou3 hf
  rw [hQ]
  exact W.vret hx hb hr (fun t ht hW => ⟨⟨(), rfl, trivial, by rw [ht]; exact hP, va_K.moved hW.alike hK, hD⟩, hS.F ht⟩) hS.2.2 dX3_begin_45

noncomputable def B_X3_goOnFrom_3 (i_p0_kitchen_rules_stirs : Int) (v_p0_kitchen_rules_after : (Int → Int)) (x2 : Int) (v_p0_kitchen_holders : (Int → Int)) (x1 : Int) (v_p0_rows : (Int → Int)) (x3 : Int) (again3 : Int → (Int → Int) → Option ((Int → Int))) (z2 : Int) (w3 : (Int → Int)) : Option ((Int → Int)) := (ck (z_r32 z2) (ck (z_r32 i_p0_kitchen_rules_stirs) (if i_p0_kitchen_rules_stirs ≤ z2 then (some w3) else (bd1 (f_X6_placeAfter v_p0_kitchen_rules_after z2 x2) (fun (z7 : Int) => (bnd z7 (fun (z8 : Int) => (bd1 (f_X2_holderOf v_p0_kitchen_holders x1 z8) (fun (z9 : Int) => (bnd z9 (fun (z10 : Int) => (ck (z_r32 z10) (ck (z_r32 x1) (jn (ck (z_ix ((z10 * (7 : Int)) + z8) 49) (ck (z_ix ((x1 * (7 : Int)) + x2) 49) (ck (z_ix ((z10 * (7 : Int)) + z8) 49) (bnd (z_up w3 ((z10 * (7 : Int)) + z8) ((w3 ((z10 * (7 : Int)) + z8)) + (v_p0_rows ((x1 * (7 : Int)) + x2)))) (fun (w14 : (Int → Int)) => (bnd (z2 + (1 : Int)) (fun (z15 : Int) => (again3 z15 w14)))))))) (fun (J13 : Option ((Int → Int))) => (if z10 = x1 then (J13) else (ck (z_r32 x3) (if x3 = (0 : Int) then (J13) else (bnd (z2 + (1 : Int)) (fun (z17 : Int) => (again3 z17 w3)))))))))))))))))))))
noncomputable def f_X3_goOnFrom (i_p0_kitchen_rules_stirs : Int) (v_p0_kitchen_rules_after : (Int → Int)) (v_p0_kitchen_holders : (Int → Int)) (v_p0_rows : (Int → Int)) (v_p0_later : (Int → Int)) (x1 : Int) (x2 : Int) (x3 : Int) : Option ((Int → Int)) := (bnd (0 : Int) (fun (z1 : Int) => (lq2 (B_X3_goOnFrom_3 i_p0_kitchen_rules_stirs v_p0_kitchen_rules_after x2 v_p0_kitchen_holders x1 v_p0_rows x3) 1000 z1 v_p0_later)))
abbrev rm_X3_goOnFrom : Room := { frames := 1, cells := 0, slots := 0, locals := 22 }
theorem inX3_goOnFrom_X3 : ∀ w ∈ wsX30, w ∈ wsX3_goOnFrom := by first | exact fun w h => List.mem_cons_of_mem _ (List.mem_append_left _ (List.mem_append_left _ (List.mem_append_right _ h))) | decide +kernel
theorem mwX3_goOnFrom_1 : Cond.fieldLink RX3 21 "LadleKings$Luck" "kitchen" "LLadleKings$Kitchen;" ∈ wsX3_goOnFrom := by first | exact List.mem_of_getElem? (i := 1) rfl | decide +kernel
theorem inX3_goOnFrom_X2 : ∀ w ∈ wsX20, w ∈ wsX3_goOnFrom := by first | exact fun w h => List.mem_cons_of_mem _ (List.mem_append_left _ (List.mem_append_right _ h)) | decide +kernel
theorem mwX3_goOnFrom_3 : Cond.fieldLink RX3 60 "LadleKings$Kitchen" "rules" "LLadleKings$Rules;" ∈ wsX3_goOnFrom := by first | exact List.mem_of_getElem? (i := 2) rfl | decide +kernel
theorem inX3_goOnFrom_X6 : ∀ w ∈ wsX60, w ∈ wsX3_goOnFrom := by first | exact fun w h => List.mem_cons_of_mem _ (List.mem_append_right _ h) | decide +kernel
theorem mwX3_goOnFrom_5 : Cond.fieldLink RX3 79 "LadleKings$Rules" "stirs" "I" ∈ wsX3_goOnFrom := by first | exact List.mem_of_getElem? (i := 3) rfl | decide +kernel
theorem mwX3_goOnFrom_6 : Cond.fieldLink RX3 15 "LadleKings$Luck" "later" "[J" ∈ wsX3_goOnFrom := by first | exact List.mem_of_getElem? (i := 4) rfl | decide +kernel
theorem mwX3_goOnFrom_7 : Cond.fieldLink RX3 11 "LadleKings$Luck" "rows" "[J" ∈ wsX3_goOnFrom := by first | exact List.mem_of_getElem? (i := 5) rfl | decide +kernel
set_option maxHeartbeats 8000000 in
set_option maxRecDepth 100000 in
theorem c_X3_goOnFrom (l : Launch) (D : va_G) (G : Nat → ClassId) (sz : Nat) (a_p0 : Nat) (a_p0_kitchen : Nat) (a_p0_rows : Nat) (a_p0_later : Nat) (a_p0_finds : Nat) (a_p0_kitchen_rules : Nat) (a_p0_kitchen_state : Nat) (a_p0_kitchen_places : Nat) (a_p0_kitchen_holders : Nat) (a_p0_kitchen_stirred : Nat) (a_p0_kitchen_rules_need : Nat) (a_p0_kitchen_rules_kind : Nat) (a_p0_kitchen_rules_first : Nat) (a_p0_kitchen_rules_second : Nat) (a_p0_kitchen_rules_after : Nat) (i_p0_kitchen_rules_seats : Int) (i_p0_kitchen_rules_stirs : Int) (v_p0_kitchen_rules_after : (Int → Int)) (v_p0_kitchen_holders : (Int → Int)) (v_p0_rows : (Int → Int)) (v_p0_later : (Int → Int)) (x1 : Int) (x2 : Int) (x3 : Int) (o_v_p0_later : (Int → Int)) (hf : f_X3_goOnFrom i_p0_kitchen_rules_stirs v_p0_kitchen_rules_after v_p0_kitchen_holders v_p0_rows v_p0_later x1 x2 x3 = some o_v_p0_later) : Met l yX3_goOnFrom wsX3_goOnFrom rm_X3_goOnFrom (pcG D G [.ref a_p0, .int (Int32.ofInt x1), .int (Int32.ofInt x2), .int (Int32.ofInt x3)] sz [(a_p0, .inr (3, [.ref a_p0_kitchen, .ref a_p0_rows, .ref a_p0_later, .ref a_p0_finds])), (a_p0_kitchen, .inr (2, [.ref a_p0_kitchen_rules, .ref a_p0_kitchen_state, .ref a_p0_kitchen_places, .ref a_p0_kitchen_holders, .ref a_p0_kitchen_stirred])), (a_p0_kitchen_rules, .inr (6, [.int (Int32.ofInt i_p0_kitchen_rules_seats), .int (Int32.ofInt i_p0_kitchen_rules_stirs), .ref a_p0_kitchen_rules_need, .ref a_p0_kitchen_rules_kind, .ref a_p0_kitchen_rules_first, .ref a_p0_kitchen_rules_second, .ref a_p0_kitchen_rules_after])), (a_p0_kitchen_rules_after, .inl (G 1, 35, .inl (zA v_p0_kitchen_rules_after))), (a_p0_kitchen_holders, .inl (G 1, 49, .inl (zA v_p0_kitchen_holders))), (a_p0_rows, .inl (G 2, 49, .inr (.inl (zL v_p0_rows)))), (a_p0_later, .inl (G 2, 49, .inr (.inl (zL v_p0_later))))]) (qcV D G [(a_p0, .inr (3, [.ref a_p0_kitchen, .ref a_p0_rows, .ref a_p0_later, .ref a_p0_finds])), (a_p0_kitchen, .inr (2, [.ref a_p0_kitchen_rules, .ref a_p0_kitchen_state, .ref a_p0_kitchen_places, .ref a_p0_kitchen_holders, .ref a_p0_kitchen_stirred])), (a_p0_kitchen_rules, .inr (6, [.int (Int32.ofInt i_p0_kitchen_rules_seats), .int (Int32.ofInt i_p0_kitchen_rules_stirs), .ref a_p0_kitchen_rules_need, .ref a_p0_kitchen_rules_kind, .ref a_p0_kitchen_rules_first, .ref a_p0_kitchen_rules_second, .ref a_p0_kitchen_rules_after])), (a_p0_kitchen_rules_after, .inl (G 1, 35, .inl (zA v_p0_kitchen_rules_after))), (a_p0_kitchen_holders, .inl (G 1, 49, .inl (zA v_p0_kitchen_holders))), (a_p0_rows, .inl (G 2, 49, .inr (.inl (zL v_p0_rows)))), (a_p0_later, .inl (G 2, 49, .inr (.inl (zL o_v_p0_later))))] (va_A [(a_p0, .inr (3, [.ref a_p0_kitchen, .ref a_p0_rows, .ref a_p0_later, .ref a_p0_finds])), (a_p0_kitchen, .inr (2, [.ref a_p0_kitchen_rules, .ref a_p0_kitchen_state, .ref a_p0_kitchen_places, .ref a_p0_kitchen_holders, .ref a_p0_kitchen_stirred])), (a_p0_kitchen_rules, .inr (6, [.int (Int32.ofInt i_p0_kitchen_rules_seats), .int (Int32.ofInt i_p0_kitchen_rules_stirs), .ref a_p0_kitchen_rules_need, .ref a_p0_kitchen_rules_kind, .ref a_p0_kitchen_rules_first, .ref a_p0_kitchen_rules_second, .ref a_p0_kitchen_rules_after])), (a_p0_kitchen_rules_after, .inl (G 1, 35, .inl (zA v_p0_kitchen_rules_after))), (a_p0_kitchen_holders, .inl (G 1, 49, .inl (zA v_p0_kitchen_holders))), (a_p0_rows, .inl (G 2, 49, .inr (.inl (zL v_p0_rows)))), (a_p0_later, .inl (G 2, 49, .inr (.inl (zL v_p0_later))))] sz)) 0 0 (va_A [(a_p0, .inr (3, [.ref a_p0_kitchen, .ref a_p0_rows, .ref a_p0_later, .ref a_p0_finds])), (a_p0_kitchen, .inr (2, [.ref a_p0_kitchen_rules, .ref a_p0_kitchen_state, .ref a_p0_kitchen_places, .ref a_p0_kitchen_holders, .ref a_p0_kitchen_stirred])), (a_p0_kitchen_rules, .inr (6, [.int (Int32.ofInt i_p0_kitchen_rules_seats), .int (Int32.ofInt i_p0_kitchen_rules_stirs), .ref a_p0_kitchen_rules_need, .ref a_p0_kitchen_rules_kind, .ref a_p0_kitchen_rules_first, .ref a_p0_kitchen_rules_second, .ref a_p0_kitchen_rules_after])), (a_p0_kitchen_rules_after, .inl (G 1, 35, .inl (zA v_p0_kitchen_rules_after))), (a_p0_kitchen_holders, .inl (G 1, 49, .inl (zA v_p0_kitchen_holders))), (a_p0_rows, .inl (G 2, 49, .inr (.inl (zL v_p0_rows)))), (a_p0_later, .inl (G 2, 49, .inr (.inl (zL v_p0_later))))] sz) := by
  refine Met.ofW (cc := cX3_goOnFrom) (maxL := 7) (ret := none) (by decide) rfl ?_
  intro p e s m args below meth c s₁ B hml hv
  obtain ⟨rfl, hsz, hP, hK, hD0⟩ := hv
  have hx := B.exec
  have hb := B.bytes
  have hr := B.returns
  have hts := atoms_spec (ws := wsX3_goOnFrom) B.pre
  have hown : s.vm.findClass RX3 = some m.cls := findClass_of_methodNamed B.named
  have hlocks := B.notSynchronized
  subst hsz
  have hD := hD0.self (sz := s.heap.size)
  generalize hAe : va_A [(a_p0, .inr (3, [.ref a_p0_kitchen, .ref a_p0_rows, .ref a_p0_later, .ref a_p0_finds])), (a_p0_kitchen, .inr (2, [.ref a_p0_kitchen_rules, .ref a_p0_kitchen_state, .ref a_p0_kitchen_places, .ref a_p0_kitchen_holders, .ref a_p0_kitchen_stirred])), (a_p0_kitchen_rules, .inr (6, [.int (Int32.ofInt i_p0_kitchen_rules_seats), .int (Int32.ofInt i_p0_kitchen_rules_stirs), .ref a_p0_kitchen_rules_need, .ref a_p0_kitchen_rules_kind, .ref a_p0_kitchen_rules_first, .ref a_p0_kitchen_rules_second, .ref a_p0_kitchen_rules_after])), (a_p0_kitchen_rules_after, .inl (G 1, 35, .inl (zA v_p0_kitchen_rules_after))), (a_p0_kitchen_holders, .inl (G 1, 49, .inl (zA v_p0_kitchen_holders))), (a_p0_rows, .inl (G 2, 49, .inr (.inl (zL v_p0_rows)))), (a_p0_later, .inl (G 2, 49, .inr (.inl (zL v_p0_later))))] s.heap.size = A at hD ⊢
  have hA : ∀ q : Nat, s.heap.size ≤ q → A q := fun q h => by rw [← hAe]; exact Or.inr h
  clear hAe hD0
  have hS : va_S A s.heap s.heap [] := va_S.rf
  have hl := lv_entry ([.ref a_p0, .int (Int32.ofInt x1), .int (Int32.ofInt x2), .int (Int32.ofInt x3)]) (n := 7) (Nat.le_of_ble_eq_true rfl)
  rw [lg_entry_eq]
  generalize (lg_sl ([.ref a_p0, .int (Int32.ofInt x1), .int (Int32.ofInt x2), .int (Int32.ofInt x3)]) ++ List.replicate (7 - (lg_sl ([.ref a_p0, .int (Int32.ofInt x1), .int (Int32.ofInt x2), .int (Int32.ofInt x3)])).length) Slot.unset).toArray = ls at hl ⊢
  have hl : lv_has ls 7 [(0, .ref a_p0), (1, .int (Int32.ofInt x1)), (2, .int (Int32.ofInt x2)), (3, .int (Int32.ofInt x3))] := hl
  refine W_nameQ (fun Q hQ => ?_)
  obtain ⟨H, hH⟩ : ∃ H, H = s.heap := ⟨_, rfl⟩
  replace hS : va_S A s.heap H [] := by rw [hH]; exact hS
  replace hP : va_P D vwCl [(a_p0, .inr (3, [.ref a_p0_kitchen, .ref a_p0_rows, .ref a_p0_later, .ref a_p0_finds])), (a_p0_kitchen, .inr (2, [.ref a_p0_kitchen_rules, .ref a_p0_kitchen_state, .ref a_p0_kitchen_places, .ref a_p0_kitchen_holders, .ref a_p0_kitchen_stirred])), (a_p0_kitchen_rules, .inr (6, [.int (Int32.ofInt i_p0_kitchen_rules_seats), .int (Int32.ofInt i_p0_kitchen_rules_stirs), .ref a_p0_kitchen_rules_need, .ref a_p0_kitchen_rules_kind, .ref a_p0_kitchen_rules_first, .ref a_p0_kitchen_rules_second, .ref a_p0_kitchen_rules_after])), (a_p0_kitchen_rules_after, .inl (G 1, 35, .inl (zA v_p0_kitchen_rules_after))), (a_p0_kitchen_holders, .inl (G 1, 49, .inl (zA v_p0_kitchen_holders))), (a_p0_rows, .inl (G 2, 49, .inr (.inl (zL v_p0_rows)))), (a_p0_later, .inl (G 2, 49, .inr (.inl (zL v_p0_later))))] H := by rw [hH]; exact hP
  rw [← hH]
  clear hH
  unfold f_X3_goOnFrom at hf
  refine lv_iconst (v := Int32.ofInt (0 : Int)) hx hb dX3_goOnFrom_0 (by decide) ?_
  refine z_topi (fun z1 ez => ?_)
  replace hf := bnd_s hf ez
  clear ez
  refine lv_istore (lv' := [(4, .int (Int32.ofInt z1)), (0, .ref a_p0), (1, .int (Int32.ofInt x1)), (2, .int (Int32.ofInt x2)), (3, .int (Int32.ofInt x3))]) hx hb dX3_goOnFrom_1 hl (by decide) rfl (fun ls hl => ?_)
  have hq := lq2_i hf
  clear hf
  obtain ⟨B4, eB4, NB4, hf⟩ := hq
  have hB4 : ∀ (n : Nat) (z2 : Int) (w3 : (Int → Int)) (ls : Array Slot) (H : Heap) (locs : List Loc), lv_has ls 7 [(4, .int (Int32.ofInt z2)), (0, .ref a_p0), (1, .int (Int32.ofInt x1)), (2, .int (Int32.ofInt x2)), (3, .int (Int32.ofInt x3))] → va_P D vwCl [(a_p0, .inr (3, [.ref a_p0_kitchen, .ref a_p0_rows, .ref a_p0_later, .ref a_p0_finds])), (a_p0_kitchen, .inr (2, [.ref a_p0_kitchen_rules, .ref a_p0_kitchen_state, .ref a_p0_kitchen_places, .ref a_p0_kitchen_holders, .ref a_p0_kitchen_stirred])), (a_p0_kitchen_rules, .inr (6, [.int (Int32.ofInt i_p0_kitchen_rules_seats), .int (Int32.ofInt i_p0_kitchen_rules_stirs), .ref a_p0_kitchen_rules_need, .ref a_p0_kitchen_rules_kind, .ref a_p0_kitchen_rules_first, .ref a_p0_kitchen_rules_second, .ref a_p0_kitchen_rules_after])), (a_p0_kitchen_rules_after, .inl (G 1, 35, .inl (zA v_p0_kitchen_rules_after))), (a_p0_kitchen_holders, .inl (G 1, 49, .inl (zA v_p0_kitchen_holders))), (a_p0_rows, .inl (G 2, 49, .inr (.inl (zL v_p0_rows)))), (a_p0_later, .inl (G 2, 49, .inr (.inl (zL w3))))] H → va_D A [(a_p0, .inr (3, [.ref a_p0_kitchen, .ref a_p0_rows, .ref a_p0_later, .ref a_p0_finds])), (a_p0_kitchen, .inr (2, [.ref a_p0_kitchen_rules, .ref a_p0_kitchen_state, .ref a_p0_kitchen_places, .ref a_p0_kitchen_holders, .ref a_p0_kitchen_stirred])), (a_p0_kitchen_rules, .inr (6, [.int (Int32.ofInt i_p0_kitchen_rules_seats), .int (Int32.ofInt i_p0_kitchen_rules_stirs), .ref a_p0_kitchen_rules_need, .ref a_p0_kitchen_rules_kind, .ref a_p0_kitchen_rules_first, .ref a_p0_kitchen_rules_second, .ref a_p0_kitchen_rules_after])), (a_p0_kitchen_rules_after, .inl (G 1, 35, .inl (zA v_p0_kitchen_rules_after))), (a_p0_kitchen_holders, .inl (G 1, 49, .inl (zA v_p0_kitchen_holders))), (a_p0_rows, .inl (G 2, 49, .inr (.inl (zL v_p0_rows)))), (a_p0_later, .inl (G 2, 49, .inr (.inl (zL w3))))] → va_S A s.heap H locs → lq2 B4 n z2 w3 = some o_v_p0_later → W p l e rm_X3_goOnFrom s m ([.ref a_p0, .int (Int32.ofInt x1), .int (Int32.ofInt x2), .int (Int32.ofInt x3)] : List Value).toArray below meth c H locs 0 0 Q (F0 m 3 ls []) := by
    clear hf hl hP hD hS
    intro n
    induction n with
    | zero =>
      intro z2 w3 ls H locs hl hP hD hS hf
      exact (lq2_0 hf).elim
    | succ n ih3 =>
      intro z2 w3 ls H locs hl hP hD hS hf
      replace hf := lq2_s eB4 hf
      unfold B_X3_goOnFrom_3 at hf
      refine lv_iload hx hb dX3_goOnFrom_3 (lv_at hl 0 rfl) ?_
      refine lv_aload_n hx hb dX3_goOnFrom_5 rfl (lv_at hl 1 rfl) ?_
      refine va_get (D := D) (ci := 3) (v := .ref a_p0_kitchen) (C := RX3) (T := TX3) (N := 4) hx hb hts inX3_goOnFrom_X3 hown hK hP 0 rfl rfl 0 (by decide) (hts _ mwX3_goOnFrom_1) (fun _ h9 => h9) rfl dX3_goOnFrom_6 ?_
      refine va_get (D := D) (ci := 2) (v := .ref a_p0_kitchen_rules) (C := RX2) (T := TX2) (N := 5) hx hb hts inX3_goOnFrom_X2 hown hK hP 1 rfl rfl 0 (by decide) (hts _ mwX3_goOnFrom_3) (fun _ h9 => h9) rfl dX3_goOnFrom_9 ?_
      refine va_get (D := D) (ci := 6) (v := .int (Int32.ofInt i_p0_kitchen_rules_stirs)) (C := RX6) (T := TX6) (N := 7) hx hb hts inX3_goOnFrom_X6 hown hK hP 2 rfl rfl 1 (by decide) (hts _ mwX3_goOnFrom_5) (fun _ h9 => h9) rfl dX3_goOnFrom_12 ?_
      have hr4 := ck_c hf
      replace hf := ck_r hf
      have hr5 := ck_c hf
      replace hf := ck_r hf
      refine lv_icmp_ge (tgt := 88) hx hb dX3_goOnFrom_15 (by decide) (fun cc => ?_) (fun cc => ?_)
      ·
        replace hf := ite_t ((z_le hr5 hr4).mp cc) hf
        clear cc
        obtain rfl := ou1 hf
        rw [hQ]
        exact W.vret hx hb hr (fun t ht hW => ⟨⟨(), rfl, trivial, by rw [ht]; exact hP, va_K.moved hW.alike hK, hD⟩, hS.F ht⟩) hS.2.2 dX3_goOnFrom_88
      ·
        replace hf := ite_f (fun h9 => cc ((z_le hr5 hr4).mpr h9)) hf
        clear cc
        refine lv_aload_n hx hb dX3_goOnFrom_18 rfl (lv_at hl 1 rfl) ?_
        refine va_get (D := D) (ci := 3) (v := .ref a_p0_kitchen) (C := RX3) (T := TX3) (N := 4) hx hb hts inX3_goOnFrom_X3 hown hK hP 0 rfl rfl 0 (by decide) (hts _ mwX3_goOnFrom_1) (fun _ h9 => h9) rfl dX3_goOnFrom_19 ?_
        refine va_get (D := D) (ci := 2) (v := .ref a_p0_kitchen_rules) (C := RX2) (T := TX2) (N := 5) hx hb hts inX3_goOnFrom_X2 hown hK hP 1 rfl rfl 0 (by decide) (hts _ mwX3_goOnFrom_3) (fun _ h9 => h9) rfl dX3_goOnFrom_22 ?_
        refine lv_iload hx hb dX3_goOnFrom_25 (lv_at hl 0 rfl) ?_
        refine lv_iload_n hx hb dX3_goOnFrom_27 rfl (lv_at hl 3 rfl) ?_
        have hq := bd1_s hf
        clear hf
        obtain ⟨z7, hcall, hf⟩ := hq
        refine gnI (va_runV (As := [.int (Int32.ofInt z2), .int (Int32.ofInt x2)]) (rest := []) ⟨hx, hb, hml, hown, hts⟩ (c_X6_placeAfter (l := l) (D := D) (G := G) (sz := H.size) (a_p0 := a_p0_kitchen_rules) (a_p0_need := a_p0_kitchen_rules_need) (a_p0_kind := a_p0_kitchen_rules_kind) (a_p0_first := a_p0_kitchen_rules_first) (a_p0_second := a_p0_kitchen_rules_second) (a_p0_after := a_p0_kitchen_rules_after) (i_p0_seats := i_p0_kitchen_rules_seats) (i_p0_stirs := i_p0_kitchen_rules_stirs) (v_p0_after := v_p0_kitchen_rules_after) (x1 := z2) (x2 := x2) (r := z7) (hf := hcall)) (cwV 2 hts gX3_goOnFrom_X6_placeAfter rfl rfl rfl hdV_yX6_placeAfter_RX6 ⟨Nat.le_of_ble_eq_true rfl, Nat.le_of_ble_eq_true rfl⟩) (preG_V (ci := 6) (q := (RX6, TX6, 7)) (hP.sub [2, 3] rfl) (hD.sub [2, 3] rfl rfl) hK rfl rfl) rfl rfl hl.1 rfl (lv_room (Nat.le_of_ble_eq_true rfl)) dX3_goOnFrom_28 ⟨Nat.le_of_ble_eq_true rfl, Nat.le_of_ble_eq_true rfl⟩) hP hD hS hA [2, 3] rfl (fun H locs hP hD hS => ?_)
        clear hcall
        refine z_topi (fun z8 ez => ?_)
        replace hf := bnd_s hf ez
        clear ez
        refine lv_istore (lv' := [(5, .int (Int32.ofInt z8)), (4, .int (Int32.ofInt z2)), (0, .ref a_p0), (1, .int (Int32.ofInt x1)), (2, .int (Int32.ofInt x2)), (3, .int (Int32.ofInt x3))]) hx hb dX3_goOnFrom_31 hl (by decide) rfl (fun ls hl => ?_)
        refine lv_aload_n hx hb dX3_goOnFrom_33 rfl (lv_at hl 2 rfl) ?_
        refine va_get (D := D) (ci := 3) (v := .ref a_p0_kitchen) (C := RX3) (T := TX3) (N := 4) hx hb hts inX3_goOnFrom_X3 hown hK hP 0 rfl rfl 0 (by decide) (hts _ mwX3_goOnFrom_1) (fun _ h9 => h9) rfl dX3_goOnFrom_34 ?_
        refine lv_iload_n hx hb dX3_goOnFrom_37 rfl (lv_at hl 3 rfl) ?_
        refine lv_iload hx hb dX3_goOnFrom_38 (lv_at hl 0 rfl) ?_
        have hq := bd1_s hf
        clear hf
        obtain ⟨z9, hcall, hf⟩ := hq
        refine gnI (va_runV (As := [.int (Int32.ofInt x1), .int (Int32.ofInt z8)]) (rest := []) ⟨hx, hb, hml, hown, hts⟩ (c_X2_holderOf (l := l) (D := D) (G := G) (sz := H.size) (a_p0 := a_p0_kitchen) (a_p0_rules := a_p0_kitchen_rules) (a_p0_state := a_p0_kitchen_state) (a_p0_places := a_p0_kitchen_places) (a_p0_holders := a_p0_kitchen_holders) (a_p0_stirred := a_p0_kitchen_stirred) (v_p0_holders := v_p0_kitchen_holders) (x1 := x1) (x2 := z8) (r := z9) (hf := hcall)) (cwV 2 hts gX3_goOnFrom_X2_holderOf rfl rfl rfl hdV_yX2_holderOf_RX2 ⟨Nat.le_of_ble_eq_true rfl, Nat.le_of_ble_eq_true rfl⟩) (preG_V (ci := 2) (q := (RX2, TX2, 5)) (hP.sub [1, 4] rfl) (hD.sub [1, 4] rfl rfl) hK rfl rfl) rfl rfl hl.1 rfl (lv_room (Nat.le_of_ble_eq_true rfl)) dX3_goOnFrom_40 ⟨Nat.le_of_ble_eq_true rfl, Nat.le_of_ble_eq_true rfl⟩) hP hD hS hA [1, 4] rfl (fun H locs hP hD hS => ?_)
        clear hcall
        refine z_topi (fun z10 ez => ?_)
        replace hf := bnd_s hf ez
        clear ez
        refine lv_istore (lv' := [(6, .int (Int32.ofInt z10)), (5, .int (Int32.ofInt z8)), (4, .int (Int32.ofInt z2)), (0, .ref a_p0), (1, .int (Int32.ofInt x1)), (2, .int (Int32.ofInt x2)), (3, .int (Int32.ofInt x3))]) hx hb dX3_goOnFrom_43 hl (by decide) rfl (fun ls hl => ?_)
        refine lv_iload hx hb dX3_goOnFrom_45 (lv_at hl 0 rfl) ?_
        refine lv_iload_n hx hb dX3_goOnFrom_47 rfl (lv_at hl 4 rfl) ?_
        have hr10 := ck_c hf
        replace hf := ck_r hf
        have hr11 := ck_c hf
        replace hf := ck_r hf
        have hq := jn_i hf
        clear hf
        obtain ⟨J13, eJ13, hf⟩ := hq
        have hJ13 : ∀  (ls : Array Slot) (H : Heap) (locs : List Loc), lv_has ls 7 [(6, .int (Int32.ofInt z10)), (5, .int (Int32.ofInt z8)), (4, .int (Int32.ofInt z2)), (0, .ref a_p0), (1, .int (Int32.ofInt x1)), (2, .int (Int32.ofInt x2)), (3, .int (Int32.ofInt x3))] → va_P D vwCl [(a_p0, .inr (3, [.ref a_p0_kitchen, .ref a_p0_rows, .ref a_p0_later, .ref a_p0_finds])), (a_p0_kitchen, .inr (2, [.ref a_p0_kitchen_rules, .ref a_p0_kitchen_state, .ref a_p0_kitchen_places, .ref a_p0_kitchen_holders, .ref a_p0_kitchen_stirred])), (a_p0_kitchen_rules, .inr (6, [.int (Int32.ofInt i_p0_kitchen_rules_seats), .int (Int32.ofInt i_p0_kitchen_rules_stirs), .ref a_p0_kitchen_rules_need, .ref a_p0_kitchen_rules_kind, .ref a_p0_kitchen_rules_first, .ref a_p0_kitchen_rules_second, .ref a_p0_kitchen_rules_after])), (a_p0_kitchen_rules_after, .inl (G 1, 35, .inl (zA v_p0_kitchen_rules_after))), (a_p0_kitchen_holders, .inl (G 1, 49, .inl (zA v_p0_kitchen_holders))), (a_p0_rows, .inl (G 2, 49, .inr (.inl (zL v_p0_rows)))), (a_p0_later, .inl (G 2, 49, .inr (.inl (zL w3))))] H → va_D A [(a_p0, .inr (3, [.ref a_p0_kitchen, .ref a_p0_rows, .ref a_p0_later, .ref a_p0_finds])), (a_p0_kitchen, .inr (2, [.ref a_p0_kitchen_rules, .ref a_p0_kitchen_state, .ref a_p0_kitchen_places, .ref a_p0_kitchen_holders, .ref a_p0_kitchen_stirred])), (a_p0_kitchen_rules, .inr (6, [.int (Int32.ofInt i_p0_kitchen_rules_seats), .int (Int32.ofInt i_p0_kitchen_rules_stirs), .ref a_p0_kitchen_rules_need, .ref a_p0_kitchen_rules_kind, .ref a_p0_kitchen_rules_first, .ref a_p0_kitchen_rules_second, .ref a_p0_kitchen_rules_after])), (a_p0_kitchen_rules_after, .inl (G 1, 35, .inl (zA v_p0_kitchen_rules_after))), (a_p0_kitchen_holders, .inl (G 1, 49, .inl (zA v_p0_kitchen_holders))), (a_p0_rows, .inl (G 2, 49, .inr (.inl (zL v_p0_rows)))), (a_p0_later, .inl (G 2, 49, .inr (.inl (zL w3))))] → va_S A s.heap H locs → J13  = some o_v_p0_later → W p l e rm_X3_goOnFrom s m ([.ref a_p0, .int (Int32.ofInt x1), .int (Int32.ofInt x2), .int (Int32.ofInt x3)] : List Value).toArray below meth c H locs 0 0 Q (F0 m 55 ls []) := by
          clear hf hl hP hD hS
          intro  ls H locs hl hP hD hS hf
          replace hf := jn0_s eJ13 hf
          refine lv_aload_n hx hb dX3_goOnFrom_55 rfl (lv_at hl 3 rfl) ?_
          refine va_get (D := D) (ci := 3) (v := .ref a_p0_later) (C := RX3) (T := TX3) (N := 4) hx hb hts inX3_goOnFrom_X3 hown hK hP 0 rfl rfl 2 (by decide) (hts _ mwX3_goOnFrom_6) (fun _ h9 => h9) rfl dX3_goOnFrom_56 ?_
          refine lv_iload hx hb dX3_goOnFrom_59 (lv_at hl 0 rfl) ?_
          refine lv_bipush (v := Int32.ofInt (7 : Int)) hx hb dX3_goOnFrom_61 (by decide) ?_
          refine lv_imul hx hb dX3_goOnFrom_63 (z_ci (Int32.ofInt_mul z10 (7 : Int)) ?_)
          refine lv_iload hx hb dX3_goOnFrom_64 (lv_at hl 1 rfl) ?_
          refine lv_iadd hx hb dX3_goOnFrom_66 (z_ci (Int32.ofInt_add (z10 * (7 : Int)) z8) ?_)
          refine lv_dup2_11 hx hb dX3_goOnFrom_67 rfl rfl ?_
          have hc := ck_c hf
          replace hf := ck_r hf
          refine va_lald hx hb hK hP 6 2 rfl rfl (z_ix_in hc) dX3_goOnFrom_68 (z_cl (z_aldL w3 hc) ?_)
          clear hc
          refine lv_aload_n hx hb dX3_goOnFrom_69 rfl (lv_at hl 3 rfl) ?_
          refine va_get (D := D) (ci := 3) (v := .ref a_p0_rows) (C := RX3) (T := TX3) (N := 4) hx hb hts inX3_goOnFrom_X3 hown hK hP 0 rfl rfl 1 (by decide) (hts _ mwX3_goOnFrom_7) (fun _ h9 => h9) rfl dX3_goOnFrom_70 ?_
          refine lv_iload_n hx hb dX3_goOnFrom_73 rfl (lv_at hl 4 rfl) ?_
          refine lv_bipush (v := Int32.ofInt (7 : Int)) hx hb dX3_goOnFrom_74 (by decide) ?_
          refine lv_imul hx hb dX3_goOnFrom_76 (z_ci (Int32.ofInt_mul x1 (7 : Int)) ?_)
          refine lv_iload_n hx hb dX3_goOnFrom_77 rfl (lv_at hl 5 rfl) ?_
          refine lv_iadd hx hb dX3_goOnFrom_78 (z_ci (Int32.ofInt_add (x1 * (7 : Int)) x2) ?_)
          have hc := ck_c hf
          replace hf := ck_r hf
          refine va_lald hx hb hK hP 5 2 rfl rfl (z_ix_in hc) dX3_goOnFrom_79 (z_cl (z_aldL v_p0_rows hc) ?_)
          clear hc
          refine lv_ladd hx hb dX3_goOnFrom_80 (z_cl (Int64.ofInt_add (w3 ((z10 * (7 : Int)) + z8)) (v_p0_rows ((x1 * (7 : Int)) + x2))) ?_)
          have hc := ck_c hf
          replace hf := ck_r hf
          refine zs_last (wf := fun w14 => [(a_p0, .inr (3, [.ref a_p0_kitchen, .ref a_p0_rows, .ref a_p0_later, .ref a_p0_finds])), (a_p0_kitchen, .inr (2, [.ref a_p0_kitchen_rules, .ref a_p0_kitchen_state, .ref a_p0_kitchen_places, .ref a_p0_kitchen_holders, .ref a_p0_kitchen_stirred])), (a_p0_kitchen_rules, .inr (6, [.int (Int32.ofInt i_p0_kitchen_rules_seats), .int (Int32.ofInt i_p0_kitchen_rules_stirs), .ref a_p0_kitchen_rules_need, .ref a_p0_kitchen_rules_kind, .ref a_p0_kitchen_rules_first, .ref a_p0_kitchen_rules_second, .ref a_p0_kitchen_rules_after])), (a_p0_kitchen_rules_after, .inl (G 1, 35, .inl (zA v_p0_kitchen_rules_after))), (a_p0_kitchen_holders, .inl (G 1, 49, .inl (zA v_p0_kitchen_holders))), (a_p0_rows, .inl (G 2, 49, .inr (.inl (zL v_p0_rows)))), (a_p0_later, .inl (G 2, 49, .inr (.inl (zL w14))))]) hx hb hK hP hD hS 6 2 rfl rfl hc dX3_goOnFrom_81 (fun _ => rfl) (fun w14 ez H locs hP hD hS => ?_)
          replace hf := bnd_s hf ez
          clear ez hc
          obtain ⟨z15, ez⟩ : ∃ y : Int, y = (z2 + (1 : Int)) := ⟨_, rfl⟩
          replace hf := bnd_s hf ez
          refine lv_iinc (v := Int32.ofInt z15) (lv' := [(4, .int (Int32.ofInt z15)), (6, .int (Int32.ofInt z10)), (5, .int (Int32.ofInt z8)), (0, .ref a_p0), (1, .int (Int32.ofInt x1)), (2, .int (Int32.ofInt x2)), (3, .int (Int32.ofInt x3))]) hx hb dX3_goOnFrom_82 hl (k := 2) rfl (by rw [ez]; exact (Int32.ofInt_add _ _).symm) (by decide) rfl (fun ls hl => ?_)
          clear ez
          refine lv_goto (tgt := 3) hx hb dX3_goOnFrom_85 (by decide) ?_
          exact ih3 _ _ _ _ _ (lv_sub hl [0, 3, 4, 5, 6] rfl) hP hD hS hf
        refine lv_icmp_eq (tgt := 55) hx hb dX3_goOnFrom_48 (by decide) (fun cc => ?_) (fun cc => ?_)
        ·
          replace hf := ite_t ((z_eq hr10 hr11).mp cc) hf
          clear cc
          exact hJ13  _ _ _ (lv_sub hl [0, 1, 2, 3, 4, 5, 6] rfl) hP hD hS hf
        ·
          replace hf := ite_f (fun h9 => cc ((z_eq hr10 hr11).mpr h9)) hf
          clear cc
          refine lv_iload_n hx hb dX3_goOnFrom_51 rfl (lv_at hl 6 rfl) ?_
          have hr15 := ck_c hf
          replace hf := ck_r hf
          refine lv_if_ne (tgt := 82) hx hb dX3_goOnFrom_52 (by decide) (fun cc => ?_) (fun cc => ?_)
          ·
            replace hf := ite_f (fun h9 => cc ((z_eq0 hr15).mpr h9)) hf
            clear cc
            obtain ⟨z17, ez⟩ : ∃ y : Int, y = (z2 + (1 : Int)) := ⟨_, rfl⟩
            replace hf := bnd_s hf ez
            refine lv_iinc (v := Int32.ofInt z17) (lv' := [(4, .int (Int32.ofInt z17)), (6, .int (Int32.ofInt z10)), (5, .int (Int32.ofInt z8)), (0, .ref a_p0), (1, .int (Int32.ofInt x1)), (2, .int (Int32.ofInt x2)), (3, .int (Int32.ofInt x3))]) hx hb dX3_goOnFrom_82 hl (k := 2) rfl (by rw [ez]; exact (Int32.ofInt_add _ _).symm) (by decide) rfl (fun ls hl => ?_)
            clear ez
            refine lv_goto (tgt := 3) hx hb dX3_goOnFrom_85 (by decide) ?_
            exact ih3 _ _ _ _ _ (lv_sub hl [0, 3, 4, 5, 6] rfl) hP hD hS hf
          ·
            replace hf := ite_t ((z_eq0 hr15).mp cc) hf
            clear cc
            exact hJ13  _ _ _ (lv_sub hl [0, 1, 2, 3, 4, 5, 6] rfl) hP hD hS hf
  exact hB4 _ _ _ _ _ _ (lv_sub hl [0, 1, 2, 3, 4] rfl) hP hD hS hf

noncomputable def B_X3_goOn_26 (i_p0_kitchen_rules_seats : Int) (z6 : Int) (again10 : Int → (Int → Int) → Option ((Int → Int) × (Int → Int))) (v_p0_rows : (Int → Int)) (i_p0_kitchen_rules_stirs : Int) (v_p0_kitchen_rules_after : (Int → Int)) (v_p0_kitchen_holders : (Int → Int)) (x1 : Int) (again26 : Int → (Int → Int) → Option ((Int → Int) × (Int → Int))) (z12 : Int) (w13 : (Int → Int)) : Option ((Int → Int) × (Int → Int)) := (ck (z_r32 z12) (if i_p0_kitchen_rules_seats ≤ z12 then (bnd (z6 + (1 : Int)) (fun (z16 : Int) => (again10 z16 w13))) else (ck (z_ix ((z6 * (7 : Int)) + z12) 49) (ck (z_r64 (v_p0_rows ((z6 * (7 : Int)) + z12))) (ck (z_r32 (z_cmp (v_p0_rows ((z6 * (7 : Int)) + z12)) (0 : Int))) (if (z_cmp (v_p0_rows ((z6 * (7 : Int)) + z12)) (0 : Int)) = (0 : Int) then (bnd (z12 + (1 : Int)) (fun (z19 : Int) => (again26 z19 w13))) else (bd1 (f_X3_goOnFrom i_p0_kitchen_rules_stirs v_p0_kitchen_rules_after v_p0_kitchen_holders v_p0_rows w13 z6 z12 x1) (fun (w20 : (Int → Int)) => (bnd (z12 + (1 : Int)) (fun (z21 : Int) => (again26 z21 w20)))))))))))
noncomputable def B_X3_goOn_10 (i_p0_kitchen_rules_seats : Int) (J4 : (Int → Int) → Option ((Int → Int) × (Int → Int))) (v_p0_rows : (Int → Int)) (i_p0_kitchen_rules_stirs : Int) (v_p0_kitchen_rules_after : (Int → Int)) (v_p0_kitchen_holders : (Int → Int)) (x1 : Int) (again10 : Int → (Int → Int) → Option ((Int → Int) × (Int → Int))) (z6 : Int) (w7 : (Int → Int)) : Option ((Int → Int) × (Int → Int)) := (ck (z_r32 z6) (ck (z_r32 i_p0_kitchen_rules_seats) (if i_p0_kitchen_rules_seats ≤ z6 then (J4 w7) else (bnd (0 : Int) (fun (z11 : Int) => (lq2 (B_X3_goOn_26 i_p0_kitchen_rules_seats z6 again10 v_p0_rows i_p0_kitchen_rules_stirs v_p0_kitchen_rules_after v_p0_kitchen_holders x1) 1000 z11 w7))))))
noncomputable def f_X3_goOn (i_p0_kitchen_rules_seats : Int) (i_p0_kitchen_rules_stirs : Int) (v_p0_kitchen_rules_after : (Int → Int)) (v_p0_kitchen_holders : (Int → Int)) (v_p0_rows : (Int → Int)) (v_p0_later : (Int → Int)) (x1 : Int) : Option ((Int → Int) × (Int → Int)) := (bd1 (f_J7_fill_d0a16 49 v_p0_later (0 : Int)) (fun (w1 : (Int → Int)) => (bnd (0 : Int) (fun (z2 : Int) => (jn (fun (w3 : (Int → Int)) => (ck (z_cp (0 : Int) (49 : Int) 49) (ck (z_cp (0 : Int) (49 : Int) 49) (bnd (z_cpy w3 v_p0_rows (0 : Int) (0 : Int) (49 : Int)) (fun (w5 : (Int → Int)) => (some (w5, w3))))))) (fun (J4 : (Int → Int) → Option ((Int → Int) × (Int → Int))) => (lq2 (B_X3_goOn_10 i_p0_kitchen_rules_seats J4 v_p0_rows i_p0_kitchen_rules_stirs v_p0_kitchen_rules_after v_p0_kitchen_holders x1) 1000 z2 w1)))))))
abbrev rm_X3_goOn : Room := { frames := 2, cells := 0, slots := 0, locals := 60 }
theorem inX3_goOn_X3 : ∀ w ∈ wsX30, w ∈ wsX3_goOn := by first | exact fun w h => List.mem_cons_of_mem _ (List.mem_append_left _ (List.mem_append_left _ (List.mem_append_right _ h))) | decide +kernel
theorem mwX3_goOn_1 : Cond.fieldLink RX3 15 "LadleKings$Luck" "later" "[J" ∈ wsX3_goOn := by first | exact List.mem_of_getElem? (i := 1) rfl | decide +kernel
theorem mwX3_goOn_2 : Cond.fieldLink RX3 11 "LadleKings$Luck" "rows" "[J" ∈ wsX3_goOn := by first | exact List.mem_of_getElem? (i := 5) rfl | decide +kernel
theorem mwX3_goOn_3 : Cond.methodLink RX3 73 arraycopyName ∈ wsX3_goOn := by first | exact List.mem_of_getElem? (i := 6) rfl | decide +kernel
theorem mwX3_goOn_4 : Cond.native arraycopyName ∈ wsX3_goOn := by first | exact List.mem_of_getElem? (i := 7) rfl | decide +kernel
theorem mwX3_goOn_5 : Cond.static arraycopyName ∈ wsX3_goOn := by first | exact List.mem_of_getElem? (i := 8) rfl | decide +kernel
theorem mwX3_goOn_6 : Cond.initialized "java/lang/System" ∈ wsX3_goOn := by first | exact List.mem_of_getElem? (i := 9) rfl | decide +kernel
theorem mwX3_goOn_7 : Cond.fieldLink RX3 21 "LadleKings$Luck" "kitchen" "LLadleKings$Kitchen;" ∈ wsX3_goOn := by first | exact List.mem_of_getElem? (i := 2) rfl | decide +kernel
theorem inX3_goOn_X2 : ∀ w ∈ wsX20, w ∈ wsX3_goOn := by first | exact fun w h => List.mem_cons_of_mem _ (List.mem_append_left _ (List.mem_append_right _ h)) | decide +kernel
theorem mwX3_goOn_9 : Cond.fieldLink RX3 60 "LadleKings$Kitchen" "rules" "LLadleKings$Rules;" ∈ wsX3_goOn := by first | exact List.mem_of_getElem? (i := 3) rfl | decide +kernel
theorem inX3_goOn_X6 : ∀ w ∈ wsX60, w ∈ wsX3_goOn := by first | exact fun w h => List.mem_cons_of_mem _ (List.mem_append_right _ h) | decide +kernel
theorem mwX3_goOn_11 : Cond.fieldLink RX3 64 "LadleKings$Rules" "seats" "I" ∈ wsX3_goOn := by first | exact List.mem_of_getElem? (i := 4) rfl | decide +kernel
theorem hdV_yX3_goOnFrom_RX3 : yX3_goOnFrom.cls = RX3 ∧ yX3_goOnFrom.cls ≠ "java/lang/invoke/MethodHandle" ∧ yX3_goOnFrom.cls ≠ "java/lang/invoke/VarHandle" ∧ (parseMethodDescriptor yX3_goOnFrom.desc).map (fun d => d.parameters.length) = some 3 := by decide +kernel
set_option maxHeartbeats 8000000 in
set_option maxRecDepth 100000 in
theorem c_X3_goOn (l : Launch) (D : va_G) (G : Nat → ClassId) (sz : Nat) (a_p0 : Nat) (a_p0_kitchen : Nat) (a_p0_rows : Nat) (a_p0_later : Nat) (a_p0_finds : Nat) (a_p0_kitchen_rules : Nat) (a_p0_kitchen_state : Nat) (a_p0_kitchen_places : Nat) (a_p0_kitchen_holders : Nat) (a_p0_kitchen_stirred : Nat) (a_p0_kitchen_rules_need : Nat) (a_p0_kitchen_rules_kind : Nat) (a_p0_kitchen_rules_first : Nat) (a_p0_kitchen_rules_second : Nat) (a_p0_kitchen_rules_after : Nat) (i_p0_kitchen_rules_seats : Int) (i_p0_kitchen_rules_stirs : Int) (v_p0_kitchen_rules_after : (Int → Int)) (v_p0_kitchen_holders : (Int → Int)) (v_p0_rows : (Int → Int)) (v_p0_later : (Int → Int)) (x1 : Int) (o_v_p0_rows : (Int → Int)) (o_v_p0_later : (Int → Int)) (hf : f_X3_goOn i_p0_kitchen_rules_seats i_p0_kitchen_rules_stirs v_p0_kitchen_rules_after v_p0_kitchen_holders v_p0_rows v_p0_later x1 = some (o_v_p0_rows, o_v_p0_later)) : Met l yX3_goOn wsX3_goOn rm_X3_goOn (pcG D G [.ref a_p0, .int (Int32.ofInt x1)] sz [(a_p0, .inr (3, [.ref a_p0_kitchen, .ref a_p0_rows, .ref a_p0_later, .ref a_p0_finds])), (a_p0_kitchen, .inr (2, [.ref a_p0_kitchen_rules, .ref a_p0_kitchen_state, .ref a_p0_kitchen_places, .ref a_p0_kitchen_holders, .ref a_p0_kitchen_stirred])), (a_p0_kitchen_rules, .inr (6, [.int (Int32.ofInt i_p0_kitchen_rules_seats), .int (Int32.ofInt i_p0_kitchen_rules_stirs), .ref a_p0_kitchen_rules_need, .ref a_p0_kitchen_rules_kind, .ref a_p0_kitchen_rules_first, .ref a_p0_kitchen_rules_second, .ref a_p0_kitchen_rules_after])), (a_p0_kitchen_rules_after, .inl (G 1, 35, .inl (zA v_p0_kitchen_rules_after))), (a_p0_kitchen_holders, .inl (G 1, 49, .inl (zA v_p0_kitchen_holders))), (a_p0_rows, .inl (G 2, 49, .inr (.inl (zL v_p0_rows)))), (a_p0_later, .inl (G 2, 49, .inr (.inl (zL v_p0_later))))]) (qcV D G [(a_p0, .inr (3, [.ref a_p0_kitchen, .ref a_p0_rows, .ref a_p0_later, .ref a_p0_finds])), (a_p0_kitchen, .inr (2, [.ref a_p0_kitchen_rules, .ref a_p0_kitchen_state, .ref a_p0_kitchen_places, .ref a_p0_kitchen_holders, .ref a_p0_kitchen_stirred])), (a_p0_kitchen_rules, .inr (6, [.int (Int32.ofInt i_p0_kitchen_rules_seats), .int (Int32.ofInt i_p0_kitchen_rules_stirs), .ref a_p0_kitchen_rules_need, .ref a_p0_kitchen_rules_kind, .ref a_p0_kitchen_rules_first, .ref a_p0_kitchen_rules_second, .ref a_p0_kitchen_rules_after])), (a_p0_kitchen_rules_after, .inl (G 1, 35, .inl (zA v_p0_kitchen_rules_after))), (a_p0_kitchen_holders, .inl (G 1, 49, .inl (zA v_p0_kitchen_holders))), (a_p0_rows, .inl (G 2, 49, .inr (.inl (zL o_v_p0_rows)))), (a_p0_later, .inl (G 2, 49, .inr (.inl (zL o_v_p0_later))))] (va_A [(a_p0, .inr (3, [.ref a_p0_kitchen, .ref a_p0_rows, .ref a_p0_later, .ref a_p0_finds])), (a_p0_kitchen, .inr (2, [.ref a_p0_kitchen_rules, .ref a_p0_kitchen_state, .ref a_p0_kitchen_places, .ref a_p0_kitchen_holders, .ref a_p0_kitchen_stirred])), (a_p0_kitchen_rules, .inr (6, [.int (Int32.ofInt i_p0_kitchen_rules_seats), .int (Int32.ofInt i_p0_kitchen_rules_stirs), .ref a_p0_kitchen_rules_need, .ref a_p0_kitchen_rules_kind, .ref a_p0_kitchen_rules_first, .ref a_p0_kitchen_rules_second, .ref a_p0_kitchen_rules_after])), (a_p0_kitchen_rules_after, .inl (G 1, 35, .inl (zA v_p0_kitchen_rules_after))), (a_p0_kitchen_holders, .inl (G 1, 49, .inl (zA v_p0_kitchen_holders))), (a_p0_rows, .inl (G 2, 49, .inr (.inl (zL v_p0_rows)))), (a_p0_later, .inl (G 2, 49, .inr (.inl (zL v_p0_later))))] sz)) 0 0 (va_A [(a_p0, .inr (3, [.ref a_p0_kitchen, .ref a_p0_rows, .ref a_p0_later, .ref a_p0_finds])), (a_p0_kitchen, .inr (2, [.ref a_p0_kitchen_rules, .ref a_p0_kitchen_state, .ref a_p0_kitchen_places, .ref a_p0_kitchen_holders, .ref a_p0_kitchen_stirred])), (a_p0_kitchen_rules, .inr (6, [.int (Int32.ofInt i_p0_kitchen_rules_seats), .int (Int32.ofInt i_p0_kitchen_rules_stirs), .ref a_p0_kitchen_rules_need, .ref a_p0_kitchen_rules_kind, .ref a_p0_kitchen_rules_first, .ref a_p0_kitchen_rules_second, .ref a_p0_kitchen_rules_after])), (a_p0_kitchen_rules_after, .inl (G 1, 35, .inl (zA v_p0_kitchen_rules_after))), (a_p0_kitchen_holders, .inl (G 1, 49, .inl (zA v_p0_kitchen_holders))), (a_p0_rows, .inl (G 2, 49, .inr (.inl (zL v_p0_rows)))), (a_p0_later, .inl (G 2, 49, .inr (.inl (zL v_p0_later))))] sz) := by
  refine Met.ofW (cc := cX3_goOn) (maxL := 4) (ret := none) (by decide) rfl ?_
  intro p e s m args below meth c s₁ B hml hv
  obtain ⟨rfl, hsz, hP, hK, hD0⟩ := hv
  have hx := B.exec
  have hb := B.bytes
  have hr := B.returns
  have hts := atoms_spec (ws := wsX3_goOn) B.pre
  have hown : s.vm.findClass RX3 = some m.cls := findClass_of_methodNamed B.named
  have hlocks := B.notSynchronized
  subst hsz
  have hD := hD0.self (sz := s.heap.size)
  generalize hAe : va_A [(a_p0, .inr (3, [.ref a_p0_kitchen, .ref a_p0_rows, .ref a_p0_later, .ref a_p0_finds])), (a_p0_kitchen, .inr (2, [.ref a_p0_kitchen_rules, .ref a_p0_kitchen_state, .ref a_p0_kitchen_places, .ref a_p0_kitchen_holders, .ref a_p0_kitchen_stirred])), (a_p0_kitchen_rules, .inr (6, [.int (Int32.ofInt i_p0_kitchen_rules_seats), .int (Int32.ofInt i_p0_kitchen_rules_stirs), .ref a_p0_kitchen_rules_need, .ref a_p0_kitchen_rules_kind, .ref a_p0_kitchen_rules_first, .ref a_p0_kitchen_rules_second, .ref a_p0_kitchen_rules_after])), (a_p0_kitchen_rules_after, .inl (G 1, 35, .inl (zA v_p0_kitchen_rules_after))), (a_p0_kitchen_holders, .inl (G 1, 49, .inl (zA v_p0_kitchen_holders))), (a_p0_rows, .inl (G 2, 49, .inr (.inl (zL v_p0_rows)))), (a_p0_later, .inl (G 2, 49, .inr (.inl (zL v_p0_later))))] s.heap.size = A at hD ⊢
  have hA : ∀ q : Nat, s.heap.size ≤ q → A q := fun q h => by rw [← hAe]; exact Or.inr h
  clear hAe hD0
  have hS : va_S A s.heap s.heap [] := va_S.rf
  have hl := lv_entry ([.ref a_p0, .int (Int32.ofInt x1)]) (n := 4) (Nat.le_of_ble_eq_true rfl)
  rw [lg_entry_eq]
  generalize (lg_sl ([.ref a_p0, .int (Int32.ofInt x1)]) ++ List.replicate (4 - (lg_sl ([.ref a_p0, .int (Int32.ofInt x1)])).length) Slot.unset).toArray = ls at hl ⊢
  have hl : lv_has ls 4 [(0, .ref a_p0), (1, .int (Int32.ofInt x1))] := hl
  refine W_nameQ (fun Q hQ => ?_)
  obtain ⟨H, hH⟩ : ∃ H, H = s.heap := ⟨_, rfl⟩
  replace hS : va_S A s.heap H [] := by rw [hH]; exact hS
  replace hP : va_P D vwCl [(a_p0, .inr (3, [.ref a_p0_kitchen, .ref a_p0_rows, .ref a_p0_later, .ref a_p0_finds])), (a_p0_kitchen, .inr (2, [.ref a_p0_kitchen_rules, .ref a_p0_kitchen_state, .ref a_p0_kitchen_places, .ref a_p0_kitchen_holders, .ref a_p0_kitchen_stirred])), (a_p0_kitchen_rules, .inr (6, [.int (Int32.ofInt i_p0_kitchen_rules_seats), .int (Int32.ofInt i_p0_kitchen_rules_stirs), .ref a_p0_kitchen_rules_need, .ref a_p0_kitchen_rules_kind, .ref a_p0_kitchen_rules_first, .ref a_p0_kitchen_rules_second, .ref a_p0_kitchen_rules_after])), (a_p0_kitchen_rules_after, .inl (G 1, 35, .inl (zA v_p0_kitchen_rules_after))), (a_p0_kitchen_holders, .inl (G 1, 49, .inl (zA v_p0_kitchen_holders))), (a_p0_rows, .inl (G 2, 49, .inr (.inl (zL v_p0_rows)))), (a_p0_later, .inl (G 2, 49, .inr (.inl (zL v_p0_later))))] H := by rw [hH]; exact hP
  rw [← hH]
  clear hH
  unfold f_X3_goOn at hf
  refine lv_aload_n hx hb dX3_goOn_0 rfl (lv_at hl 0 rfl) ?_
  refine va_get (D := D) (ci := 3) (v := .ref a_p0_later) (C := RX3) (T := TX3) (N := 4) hx hb hts inX3_goOn_X3 hown hK hP 0 rfl rfl 2 (by decide) (hts _ mwX3_goOn_1) (fun _ h9 => h9) rfl dX3_goOn_1 ?_
  refine lv_lconst (v := Int64.ofInt (0 : Int)) hx hb dX3_goOn_4 (by decide) ?_
  have hq := bd1_s hf
  clear hf
  obtain ⟨w1, hcall, hf⟩ := hq
  refine gsV (ws' := [(a_p0, .inr (3, [.ref a_p0_kitchen, .ref a_p0_rows, .ref a_p0_later, .ref a_p0_finds])), (a_p0_kitchen, .inr (2, [.ref a_p0_kitchen_rules, .ref a_p0_kitchen_state, .ref a_p0_kitchen_places, .ref a_p0_kitchen_holders, .ref a_p0_kitchen_stirred])), (a_p0_kitchen_rules, .inr (6, [.int (Int32.ofInt i_p0_kitchen_rules_seats), .int (Int32.ofInt i_p0_kitchen_rules_stirs), .ref a_p0_kitchen_rules_need, .ref a_p0_kitchen_rules_kind, .ref a_p0_kitchen_rules_first, .ref a_p0_kitchen_rules_second, .ref a_p0_kitchen_rules_after])), (a_p0_kitchen_rules_after, .inl (G 1, 35, .inl (zA v_p0_kitchen_rules_after))), (a_p0_kitchen_holders, .inl (G 1, 49, .inl (zA v_p0_kitchen_holders))), (a_p0_rows, .inl (G 2, 49, .inr (.inl (zL v_p0_rows)))), (a_p0_later, .inl (G 2, 49, .inr (.inl (zL w1))))]) (va_runS (As := [.ref a_p0_later, .long (Int64.ofInt (0 : Int))]) (rest := []) ⟨hx, hb, hml, hown, hts⟩ (c_J7_fill_d0a16 (l := l) (D := D) (G := G) (sz := H.size) (a_p0 := a_p0_later) (n_p0 := 49) (v_p0 := v_p0_later) (x1 := (0 : Int)) (o_v_p0 := w1) (hf := hcall)) (va_cwS 2 hts gX3_goOn_J7_fill_d0a16 rfl rfl rfl (by decide +kernel) ⟨Nat.le_of_ble_eq_true rfl, Nat.le_of_ble_eq_true rfl⟩) (preG_S (hP.sub [6] rfl) (hD.sub [6] rfl rfl) hK) rfl rfl hl.1 rfl (lv_room (Nat.le_of_ble_eq_true rfl)) dX3_goOn_5 ⟨Nat.le_of_ble_eq_true rfl, Nat.le_of_ble_eq_true rfl⟩) hP hD hS hA [6] rfl rfl rfl (fun H locs hP hD hS => ?_)
  clear hcall
  refine lv_iconst (v := Int32.ofInt (0 : Int)) hx hb dX3_goOn_8 (by decide) ?_
  refine z_topi (fun z2 ez => ?_)
  replace hf := bnd_s hf ez
  clear ez
  refine lv_istore_n (lv' := [(2, .int (Int32.ofInt z2)), (0, .ref a_p0), (1, .int (Int32.ofInt x1))]) hx hb dX3_goOn_9 rfl hl (by decide) rfl (fun ls hl => ?_)
  have hq := jn_i hf
  clear hf
  obtain ⟨J4, eJ4, hf⟩ := hq
  have hJ4 : ∀ (w3 : (Int → Int)) (ls : Array Slot) (H : Heap) (locs : List Loc), lv_has ls 4 [(0, .ref a_p0)] → va_P D vwCl [(a_p0, .inr (3, [.ref a_p0_kitchen, .ref a_p0_rows, .ref a_p0_later, .ref a_p0_finds])), (a_p0_kitchen, .inr (2, [.ref a_p0_kitchen_rules, .ref a_p0_kitchen_state, .ref a_p0_kitchen_places, .ref a_p0_kitchen_holders, .ref a_p0_kitchen_stirred])), (a_p0_kitchen_rules, .inr (6, [.int (Int32.ofInt i_p0_kitchen_rules_seats), .int (Int32.ofInt i_p0_kitchen_rules_stirs), .ref a_p0_kitchen_rules_need, .ref a_p0_kitchen_rules_kind, .ref a_p0_kitchen_rules_first, .ref a_p0_kitchen_rules_second, .ref a_p0_kitchen_rules_after])), (a_p0_kitchen_rules_after, .inl (G 1, 35, .inl (zA v_p0_kitchen_rules_after))), (a_p0_kitchen_holders, .inl (G 1, 49, .inl (zA v_p0_kitchen_holders))), (a_p0_rows, .inl (G 2, 49, .inr (.inl (zL v_p0_rows)))), (a_p0_later, .inl (G 2, 49, .inr (.inl (zL w3))))] H → va_D A [(a_p0, .inr (3, [.ref a_p0_kitchen, .ref a_p0_rows, .ref a_p0_later, .ref a_p0_finds])), (a_p0_kitchen, .inr (2, [.ref a_p0_kitchen_rules, .ref a_p0_kitchen_state, .ref a_p0_kitchen_places, .ref a_p0_kitchen_holders, .ref a_p0_kitchen_stirred])), (a_p0_kitchen_rules, .inr (6, [.int (Int32.ofInt i_p0_kitchen_rules_seats), .int (Int32.ofInt i_p0_kitchen_rules_stirs), .ref a_p0_kitchen_rules_need, .ref a_p0_kitchen_rules_kind, .ref a_p0_kitchen_rules_first, .ref a_p0_kitchen_rules_second, .ref a_p0_kitchen_rules_after])), (a_p0_kitchen_rules_after, .inl (G 1, 35, .inl (zA v_p0_kitchen_rules_after))), (a_p0_kitchen_holders, .inl (G 1, 49, .inl (zA v_p0_kitchen_holders))), (a_p0_rows, .inl (G 2, 49, .inr (.inl (zL v_p0_rows)))), (a_p0_later, .inl (G 2, 49, .inr (.inl (zL w3))))] → va_S A s.heap H locs → J4 w3 = some (o_v_p0_rows, o_v_p0_later) → W p l e rm_X3_goOn s m ([.ref a_p0, .int (Int32.ofInt x1)] : List Value).toArray below meth c H locs 0 0 Q (F0 m 75 ls []) := by
    clear hf hl hP hD hS
    intro w3 ls H locs hl hP hD hS hf
    replace hf := jn1_s eJ4 hf
    refine lv_aload_n hx hb dX3_goOn_75 rfl (lv_at hl 0 rfl) ?_
    refine va_get (D := D) (ci := 3) (v := .ref a_p0_later) (C := RX3) (T := TX3) (N := 4) hx hb hts inX3_goOn_X3 hown hK hP 0 rfl rfl 2 (by decide) (hts _ mwX3_goOn_1) (fun _ h9 => h9) rfl dX3_goOn_76 ?_
    refine lv_iconst (v := Int32.ofInt (0 : Int)) hx hb dX3_goOn_79 (by decide) ?_
    refine lv_aload_n hx hb dX3_goOn_80 rfl (lv_at hl 0 rfl) ?_
    refine va_get (D := D) (ci := 3) (v := .ref a_p0_rows) (C := RX3) (T := TX3) (N := 4) hx hb hts inX3_goOn_X3 hown hK hP 0 rfl rfl 1 (by decide) (hts _ mwX3_goOn_2) (fun _ h9 => h9) rfl dX3_goOn_81 ?_
    refine lv_iconst (v := Int32.ofInt (0 : Int)) hx hb dX3_goOn_84 (by decide) ?_
    refine lv_bipush (v := Int32.ofInt (49 : Int)) hx hb dX3_goOn_85 (by decide) ?_
    have hc0 := ck_c hf
    have hc := z_cp_s hc0
    replace hf := ck_r hf
    have hc02 := ck_c hf
    have hc2 := z_cp_s hc02
    replace hf := ck_r hf
    refine va_copyl hx hb (by rw [hml]; exact hl.1.symm) hown (hts _ mwX3_goOn_3) (hts _ mwX3_goOn_4) (hts _ mwX3_goOn_5) (hts _ mwX3_goOn_6) hK hP hD hS 6 5 2 2 rfl rfl rfl rfl rfl hc.1 hc2.1 hc.2.1 hc.2.2 hc2.2.2 (fun _ _ => rfl) (Nat.le_of_ble_eq_true rfl) (Nat.le_of_ble_eq_true rfl) dX3_goOn_87 (fun H locs hP hD hS => ?_)
    obtain ⟨w5, ez⟩ : ∃ y : (Int → Int), y = (z_cpy w3 v_p0_rows (0 : Int) (0 : Int) (49 : Int)) := ⟨_, rfl⟩
    have hP : va_P D vwCl [(a_p0, .inr (3, [.ref a_p0_kitchen, .ref a_p0_rows, .ref a_p0_later, .ref a_p0_finds])), (a_p0_kitchen, .inr (2, [.ref a_p0_kitchen_rules, .ref a_p0_kitchen_state, .ref a_p0_kitchen_places, .ref a_p0_kitchen_holders, .ref a_p0_kitchen_stirred])), (a_p0_kitchen_rules, .inr (6, [.int (Int32.ofInt i_p0_kitchen_rules_seats), .int (Int32.ofInt i_p0_kitchen_rules_stirs), .ref a_p0_kitchen_rules_need, .ref a_p0_kitchen_rules_kind, .ref a_p0_kitchen_rules_first, .ref a_p0_kitchen_rules_second, .ref a_p0_kitchen_rules_after])), (a_p0_kitchen_rules_after, .inl (G 1, 35, .inl (zA v_p0_kitchen_rules_after))), (a_p0_kitchen_holders, .inl (G 1, 49, .inl (zA v_p0_kitchen_holders))), (a_p0_rows, .inl (G 2, 49, .inr (.inl (zL w5)))), (a_p0_later, .inl (G 2, 49, .inr (.inl (zL w3))))] H := by rw [ez, ← z_cpy_eL hc0 hc02]; exact hP
    have hD : va_D A [(a_p0, .inr (3, [.ref a_p0_kitchen, .ref a_p0_rows, .ref a_p0_later, .ref a_p0_finds])), (a_p0_kitchen, .inr (2, [.ref a_p0_kitchen_rules, .ref a_p0_kitchen_state, .ref a_p0_kitchen_places, .ref a_p0_kitchen_holders, .ref a_p0_kitchen_stirred])), (a_p0_kitchen_rules, .inr (6, [.int (Int32.ofInt i_p0_kitchen_rules_seats), .int (Int32.ofInt i_p0_kitchen_rules_stirs), .ref a_p0_kitchen_rules_need, .ref a_p0_kitchen_rules_kind, .ref a_p0_kitchen_rules_first, .ref a_p0_kitchen_rules_second, .ref a_p0_kitchen_rules_after])), (a_p0_kitchen_rules_after, .inl (G 1, 35, .inl (zA v_p0_kitchen_rules_after))), (a_p0_kitchen_holders, .inl (G 1, 49, .inl (zA v_p0_kitchen_holders))), (a_p0_rows, .inl (G 2, 49, .inr (.inl (zL w5)))), (a_p0_later, .inl (G 2, 49, .inr (.inl (zL w3))))] := by rw [ez, ← z_cpy_eL hc0 hc02]; exact hD
    replace hf := bnd_s hf ez
    clear ez hc hc2 hc0 hc02
    obtain ⟨rfl, rfl⟩ := ou2 hf
    rw [hQ]
    exact W.vret hx hb hr (fun t ht hW => ⟨⟨(), rfl, trivial, by rw [ht]; exact hP, va_K.moved hW.alike hK, hD⟩, hS.F ht⟩) hS.2.2 dX3_goOn_90
  have hq := lq2_i hf
  clear hf
  obtain ⟨B8, eB8, NB8, hf⟩ := hq
  have hB8 : ∀ (n : Nat) (z6 : Int) (w7 : (Int → Int)) (ls : Array Slot) (H : Heap) (locs : List Loc), lv_has ls 4 [(2, .int (Int32.ofInt z6)), (0, .ref a_p0), (1, .int (Int32.ofInt x1))] → va_P D vwCl [(a_p0, .inr (3, [.ref a_p0_kitchen, .ref a_p0_rows, .ref a_p0_later, .ref a_p0_finds])), (a_p0_kitchen, .inr (2, [.ref a_p0_kitchen_rules, .ref a_p0_kitchen_state, .ref a_p0_kitchen_places, .ref a_p0_kitchen_holders, .ref a_p0_kitchen_stirred])), (a_p0_kitchen_rules, .inr (6, [.int (Int32.ofInt i_p0_kitchen_rules_seats), .int (Int32.ofInt i_p0_kitchen_rules_stirs), .ref a_p0_kitchen_rules_need, .ref a_p0_kitchen_rules_kind, .ref a_p0_kitchen_rules_first, .ref a_p0_kitchen_rules_second, .ref a_p0_kitchen_rules_after])), (a_p0_kitchen_rules_after, .inl (G 1, 35, .inl (zA v_p0_kitchen_rules_after))), (a_p0_kitchen_holders, .inl (G 1, 49, .inl (zA v_p0_kitchen_holders))), (a_p0_rows, .inl (G 2, 49, .inr (.inl (zL v_p0_rows)))), (a_p0_later, .inl (G 2, 49, .inr (.inl (zL w7))))] H → va_D A [(a_p0, .inr (3, [.ref a_p0_kitchen, .ref a_p0_rows, .ref a_p0_later, .ref a_p0_finds])), (a_p0_kitchen, .inr (2, [.ref a_p0_kitchen_rules, .ref a_p0_kitchen_state, .ref a_p0_kitchen_places, .ref a_p0_kitchen_holders, .ref a_p0_kitchen_stirred])), (a_p0_kitchen_rules, .inr (6, [.int (Int32.ofInt i_p0_kitchen_rules_seats), .int (Int32.ofInt i_p0_kitchen_rules_stirs), .ref a_p0_kitchen_rules_need, .ref a_p0_kitchen_rules_kind, .ref a_p0_kitchen_rules_first, .ref a_p0_kitchen_rules_second, .ref a_p0_kitchen_rules_after])), (a_p0_kitchen_rules_after, .inl (G 1, 35, .inl (zA v_p0_kitchen_rules_after))), (a_p0_kitchen_holders, .inl (G 1, 49, .inl (zA v_p0_kitchen_holders))), (a_p0_rows, .inl (G 2, 49, .inr (.inl (zL v_p0_rows)))), (a_p0_later, .inl (G 2, 49, .inr (.inl (zL w7))))] → va_S A s.heap H locs → lq2 B8 n z6 w7 = some (o_v_p0_rows, o_v_p0_later) → W p l e rm_X3_goOn s m ([.ref a_p0, .int (Int32.ofInt x1)] : List Value).toArray below meth c H locs 0 0 Q (F0 m 10 ls []) := by
    clear hf hl hP hD hS
    intro n
    induction n with
    | zero =>
      intro z6 w7 ls H locs hl hP hD hS hf
      exact (lq2_0 hf).elim
    | succ n ih10 =>
      intro z6 w7 ls H locs hl hP hD hS hf
      replace hf := lq2_s eB8 hf
      unfold B_X3_goOn_10 at hf
      refine lv_iload_n hx hb dX3_goOn_10 rfl (lv_at hl 0 rfl) ?_
      refine lv_aload_n hx hb dX3_goOn_11 rfl (lv_at hl 1 rfl) ?_
      refine va_get (D := D) (ci := 3) (v := .ref a_p0_kitchen) (C := RX3) (T := TX3) (N := 4) hx hb hts inX3_goOn_X3 hown hK hP 0 rfl rfl 0 (by decide) (hts _ mwX3_goOn_7) (fun _ h9 => h9) rfl dX3_goOn_12 ?_
      refine va_get (D := D) (ci := 2) (v := .ref a_p0_kitchen_rules) (C := RX2) (T := TX2) (N := 5) hx hb hts inX3_goOn_X2 hown hK hP 1 rfl rfl 0 (by decide) (hts _ mwX3_goOn_9) (fun _ h9 => h9) rfl dX3_goOn_15 ?_
      refine va_get (D := D) (ci := 6) (v := .int (Int32.ofInt i_p0_kitchen_rules_seats)) (C := RX6) (T := TX6) (N := 7) hx hb hts inX3_goOn_X6 hown hK hP 2 rfl rfl 0 (by decide) (hts _ mwX3_goOn_11) (fun _ h9 => h9) rfl dX3_goOn_18 ?_
      have hr8 := ck_c hf
      replace hf := ck_r hf
      have hr9 := ck_c hf
      replace hf := ck_r hf
      refine lv_icmp_ge (tgt := 75) hx hb dX3_goOn_21 (by decide) (fun cc => ?_) (fun cc => ?_)
      ·
        replace hf := ite_t ((z_le hr9 hr8).mp cc) hf
        clear cc
        exact hJ4 _ _ _ _ (lv_sub hl [1] rfl) hP hD hS hf
      ·
        replace hf := ite_f (fun h9 => cc ((z_le hr9 hr8).mpr h9)) hf
        clear cc
        refine lv_iconst (v := Int32.ofInt (0 : Int)) hx hb dX3_goOn_24 (by decide) ?_
        refine z_topi (fun z11 ez => ?_)
        replace hf := bnd_s hf ez
        clear ez
        refine lv_istore_n (lv' := [(3, .int (Int32.ofInt z11)), (2, .int (Int32.ofInt z6)), (0, .ref a_p0), (1, .int (Int32.ofInt x1))]) hx hb dX3_goOn_25 rfl hl (by decide) rfl (fun ls hl => ?_)
        have hq := lq2_i hf
        clear hf
        obtain ⟨B14, eB14, NB14, hf⟩ := hq
        have hB14 : ∀ (n : Nat) (z12 : Int) (w13 : (Int → Int)) (ls : Array Slot) (H : Heap) (locs : List Loc), lv_has ls 4 [(3, .int (Int32.ofInt z12)), (2, .int (Int32.ofInt z6)), (0, .ref a_p0), (1, .int (Int32.ofInt x1))] → va_P D vwCl [(a_p0, .inr (3, [.ref a_p0_kitchen, .ref a_p0_rows, .ref a_p0_later, .ref a_p0_finds])), (a_p0_kitchen, .inr (2, [.ref a_p0_kitchen_rules, .ref a_p0_kitchen_state, .ref a_p0_kitchen_places, .ref a_p0_kitchen_holders, .ref a_p0_kitchen_stirred])), (a_p0_kitchen_rules, .inr (6, [.int (Int32.ofInt i_p0_kitchen_rules_seats), .int (Int32.ofInt i_p0_kitchen_rules_stirs), .ref a_p0_kitchen_rules_need, .ref a_p0_kitchen_rules_kind, .ref a_p0_kitchen_rules_first, .ref a_p0_kitchen_rules_second, .ref a_p0_kitchen_rules_after])), (a_p0_kitchen_rules_after, .inl (G 1, 35, .inl (zA v_p0_kitchen_rules_after))), (a_p0_kitchen_holders, .inl (G 1, 49, .inl (zA v_p0_kitchen_holders))), (a_p0_rows, .inl (G 2, 49, .inr (.inl (zL v_p0_rows)))), (a_p0_later, .inl (G 2, 49, .inr (.inl (zL w13))))] H → va_D A [(a_p0, .inr (3, [.ref a_p0_kitchen, .ref a_p0_rows, .ref a_p0_later, .ref a_p0_finds])), (a_p0_kitchen, .inr (2, [.ref a_p0_kitchen_rules, .ref a_p0_kitchen_state, .ref a_p0_kitchen_places, .ref a_p0_kitchen_holders, .ref a_p0_kitchen_stirred])), (a_p0_kitchen_rules, .inr (6, [.int (Int32.ofInt i_p0_kitchen_rules_seats), .int (Int32.ofInt i_p0_kitchen_rules_stirs), .ref a_p0_kitchen_rules_need, .ref a_p0_kitchen_rules_kind, .ref a_p0_kitchen_rules_first, .ref a_p0_kitchen_rules_second, .ref a_p0_kitchen_rules_after])), (a_p0_kitchen_rules_after, .inl (G 1, 35, .inl (zA v_p0_kitchen_rules_after))), (a_p0_kitchen_holders, .inl (G 1, 49, .inl (zA v_p0_kitchen_holders))), (a_p0_rows, .inl (G 2, 49, .inr (.inl (zL v_p0_rows)))), (a_p0_later, .inl (G 2, 49, .inr (.inl (zL w13))))] → va_S A s.heap H locs → lq2 B14 n z12 w13 = some (o_v_p0_rows, o_v_p0_later) → W p l e rm_X3_goOn s m ([.ref a_p0, .int (Int32.ofInt x1)] : List Value).toArray below meth c H locs 0 0 Q (F0 m 26 ls []) := by
          clear hf hl hP hD hS
          intro n
          induction n with
          | zero =>
            intro z12 w13 ls H locs hl hP hD hS hf
            exact (lq2_0 hf).elim
          | succ n ih26 =>
            intro z12 w13 ls H locs hl hP hD hS hf
            replace hf := lq2_s eB14 hf
            unfold B_X3_goOn_26 at hf
            refine lv_iload_n hx hb dX3_goOn_26 rfl (lv_at hl 0 rfl) ?_
            refine lv_aload_n hx hb dX3_goOn_27 rfl (lv_at hl 2 rfl) ?_
            refine va_get (D := D) (ci := 3) (v := .ref a_p0_kitchen) (C := RX3) (T := TX3) (N := 4) hx hb hts inX3_goOn_X3 hown hK hP 0 rfl rfl 0 (by decide) (hts _ mwX3_goOn_7) (fun _ h9 => h9) rfl dX3_goOn_28 ?_
            refine va_get (D := D) (ci := 2) (v := .ref a_p0_kitchen_rules) (C := RX2) (T := TX2) (N := 5) hx hb hts inX3_goOn_X2 hown hK hP 1 rfl rfl 0 (by decide) (hts _ mwX3_goOn_9) (fun _ h9 => h9) rfl dX3_goOn_31 ?_
            refine va_get (D := D) (ci := 6) (v := .int (Int32.ofInt i_p0_kitchen_rules_seats)) (C := RX6) (T := TX6) (N := 7) hx hb hts inX3_goOn_X6 hown hK hP 2 rfl rfl 0 (by decide) (hts _ mwX3_goOn_11) (fun _ h9 => h9) rfl dX3_goOn_34 ?_
            have hr14 := ck_c hf
            replace hf := ck_r hf
            refine lv_icmp_ge (tgt := 69) hx hb dX3_goOn_37 (by decide) (fun cc => ?_) (fun cc => ?_)
            ·
              replace hf := ite_t ((z_le hr9 hr14).mp cc) hf
              clear cc
              obtain ⟨z16, ez⟩ : ∃ y : Int, y = (z6 + (1 : Int)) := ⟨_, rfl⟩
              replace hf := bnd_s hf ez
              refine lv_iinc (v := Int32.ofInt z16) (lv' := [(2, .int (Int32.ofInt z16)), (3, .int (Int32.ofInt z12)), (0, .ref a_p0), (1, .int (Int32.ofInt x1))]) hx hb dX3_goOn_69 hl (k := 1) rfl (by rw [ez]; exact (Int32.ofInt_add _ _).symm) (by decide) rfl (fun ls hl => ?_)
              clear ez
              refine lv_goto (tgt := 10) hx hb dX3_goOn_72 (by decide) ?_
              exact ih10 _ _ _ _ _ (lv_sub hl [0, 2, 3] rfl) hP hD hS hf
            ·
              replace hf := ite_f (fun h9 => cc ((z_le hr9 hr14).mpr h9)) hf
              clear cc
              refine lv_aload_n hx hb dX3_goOn_40 rfl (lv_at hl 2 rfl) ?_
              refine va_get (D := D) (ci := 3) (v := .ref a_p0_rows) (C := RX3) (T := TX3) (N := 4) hx hb hts inX3_goOn_X3 hown hK hP 0 rfl rfl 1 (by decide) (hts _ mwX3_goOn_2) (fun _ h9 => h9) rfl dX3_goOn_41 ?_
              refine lv_iload_n hx hb dX3_goOn_44 rfl (lv_at hl 1 rfl) ?_
              refine lv_bipush (v := Int32.ofInt (7 : Int)) hx hb dX3_goOn_45 (by decide) ?_
              refine lv_imul hx hb dX3_goOn_47 (z_ci (Int32.ofInt_mul z6 (7 : Int)) ?_)
              refine lv_iload_n hx hb dX3_goOn_48 rfl (lv_at hl 0 rfl) ?_
              refine lv_iadd hx hb dX3_goOn_49 (z_ci (Int32.ofInt_add (z6 * (7 : Int)) z12) ?_)
              have hc := ck_c hf
              replace hf := ck_r hf
              refine va_lald hx hb hK hP 5 2 rfl rfl (z_ix_in hc) dX3_goOn_50 (z_cl (z_aldL v_p0_rows hc) ?_)
              clear hc
              refine lv_lconst (v := Int64.ofInt (0 : Int)) hx hb dX3_goOn_51 (by decide) ?_
              have hr16 := ck_c hf
              replace hf := ck_r hf
              refine W.lcmp hx hb dX3_goOn_52 (z_ci (z_cmp_e hr16 (by decide)) ?_)
              have hr17 := ck_c hf
              replace hf := ck_r hf
              refine lv_if_eq (tgt := 63) hx hb dX3_goOn_53 (by decide) (fun cc => ?_) (fun cc => ?_)
              ·
                replace hf := ite_t ((z_eq0 hr17).mp cc) hf
                clear cc
                obtain ⟨z19, ez⟩ : ∃ y : Int, y = (z12 + (1 : Int)) := ⟨_, rfl⟩
                replace hf := bnd_s hf ez
                refine lv_iinc (v := Int32.ofInt z19) (lv' := [(3, .int (Int32.ofInt z19)), (2, .int (Int32.ofInt z6)), (0, .ref a_p0), (1, .int (Int32.ofInt x1))]) hx hb dX3_goOn_63 hl (k := 0) rfl (by rw [ez]; exact (Int32.ofInt_add _ _).symm) (by decide) rfl (fun ls hl => ?_)
                clear ez
                refine lv_goto (tgt := 26) hx hb dX3_goOn_66 (by decide) ?_
                exact ih26 _ _ _ _ _ (lv_sub hl [0, 1, 2, 3] rfl) hP hD hS hf
              ·
                replace hf := ite_f (fun h9 => cc ((z_eq0 hr17).mpr h9)) hf
                clear cc
                refine lv_aload_n hx hb dX3_goOn_56 rfl (lv_at hl 2 rfl) ?_
                refine lv_iload_n hx hb dX3_goOn_57 rfl (lv_at hl 1 rfl) ?_
                refine lv_iload_n hx hb dX3_goOn_58 rfl (lv_at hl 0 rfl) ?_
                refine lv_iload_n hx hb dX3_goOn_59 rfl (lv_at hl 3 rfl) ?_
                have hq := bd1_s hf
                clear hf
                obtain ⟨w20, hcall, hf⟩ := hq
                refine gsV (ws' := [(a_p0, .inr (3, [.ref a_p0_kitchen, .ref a_p0_rows, .ref a_p0_later, .ref a_p0_finds])), (a_p0_kitchen, .inr (2, [.ref a_p0_kitchen_rules, .ref a_p0_kitchen_state, .ref a_p0_kitchen_places, .ref a_p0_kitchen_holders, .ref a_p0_kitchen_stirred])), (a_p0_kitchen_rules, .inr (6, [.int (Int32.ofInt i_p0_kitchen_rules_seats), .int (Int32.ofInt i_p0_kitchen_rules_stirs), .ref a_p0_kitchen_rules_need, .ref a_p0_kitchen_rules_kind, .ref a_p0_kitchen_rules_first, .ref a_p0_kitchen_rules_second, .ref a_p0_kitchen_rules_after])), (a_p0_kitchen_rules_after, .inl (G 1, 35, .inl (zA v_p0_kitchen_rules_after))), (a_p0_kitchen_holders, .inl (G 1, 49, .inl (zA v_p0_kitchen_holders))), (a_p0_rows, .inl (G 2, 49, .inr (.inl (zL v_p0_rows)))), (a_p0_later, .inl (G 2, 49, .inr (.inl (zL w20))))]) (va_runV (As := [.int (Int32.ofInt z6), .int (Int32.ofInt z12), .int (Int32.ofInt x1)]) (rest := []) ⟨hx, hb, hml, hown, hts⟩ (c_X3_goOnFrom (l := l) (D := D) (G := G) (sz := H.size) (a_p0 := a_p0) (a_p0_kitchen := a_p0_kitchen) (a_p0_rows := a_p0_rows) (a_p0_later := a_p0_later) (a_p0_finds := a_p0_finds) (a_p0_kitchen_rules := a_p0_kitchen_rules) (a_p0_kitchen_state := a_p0_kitchen_state) (a_p0_kitchen_places := a_p0_kitchen_places) (a_p0_kitchen_holders := a_p0_kitchen_holders) (a_p0_kitchen_stirred := a_p0_kitchen_stirred) (a_p0_kitchen_rules_need := a_p0_kitchen_rules_need) (a_p0_kitchen_rules_kind := a_p0_kitchen_rules_kind) (a_p0_kitchen_rules_first := a_p0_kitchen_rules_first) (a_p0_kitchen_rules_second := a_p0_kitchen_rules_second) (a_p0_kitchen_rules_after := a_p0_kitchen_rules_after) (i_p0_kitchen_rules_seats := i_p0_kitchen_rules_seats) (i_p0_kitchen_rules_stirs := i_p0_kitchen_rules_stirs) (v_p0_kitchen_rules_after := v_p0_kitchen_rules_after) (v_p0_kitchen_holders := v_p0_kitchen_holders) (v_p0_rows := v_p0_rows) (v_p0_later := w13) (x1 := z6) (x2 := z12) (x3 := x1) (o_v_p0_later := w20) (hf := hcall)) (cwV 3 hts gX3_goOn_X3_goOnFrom rfl rfl rfl hdV_yX3_goOnFrom_RX3 ⟨Nat.le_of_ble_eq_true rfl, Nat.le_of_ble_eq_true rfl⟩) (preG_V (ci := 3) (q := (RX3, TX3, 4)) (hP.sub [0, 1, 2, 3, 4, 5, 6] rfl) (hD.sub [0, 1, 2, 3, 4, 5, 6] rfl rfl) hK rfl rfl) rfl rfl hl.1 rfl (lv_room (Nat.le_of_ble_eq_true rfl)) dX3_goOn_60 ⟨Nat.le_of_ble_eq_true rfl, Nat.le_of_ble_eq_true rfl⟩) hP hD hS hA [0, 1, 2, 3, 4, 5, 6] rfl rfl rfl (fun H locs hP hD hS => ?_)
                clear hcall
                obtain ⟨z21, ez⟩ : ∃ y : Int, y = (z12 + (1 : Int)) := ⟨_, rfl⟩
                replace hf := bnd_s hf ez
                refine lv_iinc (v := Int32.ofInt z21) (lv' := [(3, .int (Int32.ofInt z21)), (2, .int (Int32.ofInt z6)), (0, .ref a_p0), (1, .int (Int32.ofInt x1))]) hx hb dX3_goOn_63 hl (k := 0) rfl (by rw [ez]; exact (Int32.ofInt_add _ _).symm) (by decide) rfl (fun ls hl => ?_)
                clear ez
                refine lv_goto (tgt := 26) hx hb dX3_goOn_66 (by decide) ?_
                exact ih26 _ _ _ _ _ (lv_sub hl [0, 1, 2, 3] rfl) hP hD hS hf
        exact hB14 _ _ _ _ _ _ (lv_sub hl [0, 1, 2, 3] rfl) hP hD hS hf
  exact hB8 _ _ _ _ _ _ (lv_sub hl [0, 1, 2] rfl) hP hD hS hf

noncomputable def B_X3_rowsWithKing_5 (i_p0_kitchen_rules_seats : Int) (x1 : Int) (v_p0_rows : (Int → Int)) (again5 : Int → Int → Option (Int)) (z3 : Int) (z4 : Int) : Option (Int) := (ck (z_r32 z3) (ck (z_r32 i_p0_kitchen_rules_seats) (if i_p0_kitchen_rules_seats ≤ z3 then (some z4) else (ck (z_ix ((x1 * (7 : Int)) + z3) 49) (bnd (z4 + (v_p0_rows ((x1 * (7 : Int)) + z3))) (fun (z8 : Int) => (bnd (z3 + (1 : Int)) (fun (z9 : Int) => (again5 z9 z8)))))))))
noncomputable def f_X3_rowsWithKing (i_p0_kitchen_rules_seats : Int) (v_p0_rows : (Int → Int)) (x1 : Int) : Option (Int) := (bnd (0 : Int) (fun (z1 : Int) => (bnd (0 : Int) (fun (z2 : Int) => (lq2 (B_X3_rowsWithKing_5 i_p0_kitchen_rules_seats x1 v_p0_rows) 1000 z2 z1)))))
abbrev rm_X3_rowsWithKing : Room := { frames := 0, cells := 0, slots := 0, locals := 0 }
theorem inX3_rowsWithKing_X3 : ∀ w ∈ wsX30, w ∈ wsX3_rowsWithKing := by first | exact fun w h => List.mem_cons_of_mem _ (List.mem_append_left _ (List.mem_append_left _ (List.mem_append_right _ h))) | decide +kernel
theorem mwX3_rowsWithKing_1 : Cond.fieldLink RX3 21 "LadleKings$Luck" "kitchen" "LLadleKings$Kitchen;" ∈ wsX3_rowsWithKing := by first | exact List.mem_of_getElem? (i := 1) rfl | decide +kernel
theorem inX3_rowsWithKing_X2 : ∀ w ∈ wsX20, w ∈ wsX3_rowsWithKing := by first | exact fun w h => List.mem_cons_of_mem _ (List.mem_append_left _ (List.mem_append_right _ h)) | decide +kernel
theorem mwX3_rowsWithKing_3 : Cond.fieldLink RX3 60 "LadleKings$Kitchen" "rules" "LLadleKings$Rules;" ∈ wsX3_rowsWithKing := by first | exact List.mem_of_getElem? (i := 2) rfl | decide +kernel
theorem inX3_rowsWithKing_X6 : ∀ w ∈ wsX60, w ∈ wsX3_rowsWithKing := by first | exact fun w h => List.mem_cons_of_mem _ (List.mem_append_right _ h) | decide +kernel
theorem mwX3_rowsWithKing_5 : Cond.fieldLink RX3 64 "LadleKings$Rules" "seats" "I" ∈ wsX3_rowsWithKing := by first | exact List.mem_of_getElem? (i := 3) rfl | decide +kernel
theorem mwX3_rowsWithKing_6 : Cond.fieldLink RX3 11 "LadleKings$Luck" "rows" "[J" ∈ wsX3_rowsWithKing := by first | exact List.mem_of_getElem? (i := 4) rfl | decide +kernel
set_option maxHeartbeats 8000000 in
set_option maxRecDepth 100000 in
theorem c_X3_rowsWithKing (l : Launch) (D : va_G) (G : Nat → ClassId) (sz : Nat) (a_p0 : Nat) (a_p0_kitchen : Nat) (a_p0_rows : Nat) (a_p0_later : Nat) (a_p0_finds : Nat) (a_p0_kitchen_rules : Nat) (a_p0_kitchen_state : Nat) (a_p0_kitchen_places : Nat) (a_p0_kitchen_holders : Nat) (a_p0_kitchen_stirred : Nat) (a_p0_kitchen_rules_need : Nat) (a_p0_kitchen_rules_kind : Nat) (a_p0_kitchen_rules_first : Nat) (a_p0_kitchen_rules_second : Nat) (a_p0_kitchen_rules_after : Nat) (i_p0_kitchen_rules_seats : Int) (i_p0_kitchen_rules_stirs : Int) (v_p0_rows : (Int → Int)) (x1 : Int) (r : Int) (hf : f_X3_rowsWithKing i_p0_kitchen_rules_seats v_p0_rows x1 = some r) : Met l yX3_rowsWithKing wsX3_rowsWithKing rm_X3_rowsWithKing (pcG D G [.ref a_p0, .int (Int32.ofInt x1)] sz [(a_p0, .inr (3, [.ref a_p0_kitchen, .ref a_p0_rows, .ref a_p0_later, .ref a_p0_finds])), (a_p0_kitchen, .inr (2, [.ref a_p0_kitchen_rules, .ref a_p0_kitchen_state, .ref a_p0_kitchen_places, .ref a_p0_kitchen_holders, .ref a_p0_kitchen_stirred])), (a_p0_kitchen_rules, .inr (6, [.int (Int32.ofInt i_p0_kitchen_rules_seats), .int (Int32.ofInt i_p0_kitchen_rules_stirs), .ref a_p0_kitchen_rules_need, .ref a_p0_kitchen_rules_kind, .ref a_p0_kitchen_rules_first, .ref a_p0_kitchen_rules_second, .ref a_p0_kitchen_rules_after])), (a_p0_rows, .inl (G 2, 49, .inr (.inl (zL v_p0_rows))))]) (qcL D G (Int64.ofInt r) [(a_p0, .inr (3, [.ref a_p0_kitchen, .ref a_p0_rows, .ref a_p0_later, .ref a_p0_finds])), (a_p0_kitchen, .inr (2, [.ref a_p0_kitchen_rules, .ref a_p0_kitchen_state, .ref a_p0_kitchen_places, .ref a_p0_kitchen_holders, .ref a_p0_kitchen_stirred])), (a_p0_kitchen_rules, .inr (6, [.int (Int32.ofInt i_p0_kitchen_rules_seats), .int (Int32.ofInt i_p0_kitchen_rules_stirs), .ref a_p0_kitchen_rules_need, .ref a_p0_kitchen_rules_kind, .ref a_p0_kitchen_rules_first, .ref a_p0_kitchen_rules_second, .ref a_p0_kitchen_rules_after])), (a_p0_rows, .inl (G 2, 49, .inr (.inl (zL v_p0_rows))))] (va_A [(a_p0, .inr (3, [.ref a_p0_kitchen, .ref a_p0_rows, .ref a_p0_later, .ref a_p0_finds])), (a_p0_kitchen, .inr (2, [.ref a_p0_kitchen_rules, .ref a_p0_kitchen_state, .ref a_p0_kitchen_places, .ref a_p0_kitchen_holders, .ref a_p0_kitchen_stirred])), (a_p0_kitchen_rules, .inr (6, [.int (Int32.ofInt i_p0_kitchen_rules_seats), .int (Int32.ofInt i_p0_kitchen_rules_stirs), .ref a_p0_kitchen_rules_need, .ref a_p0_kitchen_rules_kind, .ref a_p0_kitchen_rules_first, .ref a_p0_kitchen_rules_second, .ref a_p0_kitchen_rules_after])), (a_p0_rows, .inl (G 2, 49, .inr (.inl (zL v_p0_rows))))] sz)) 0 0 (va_A [(a_p0, .inr (3, [.ref a_p0_kitchen, .ref a_p0_rows, .ref a_p0_later, .ref a_p0_finds])), (a_p0_kitchen, .inr (2, [.ref a_p0_kitchen_rules, .ref a_p0_kitchen_state, .ref a_p0_kitchen_places, .ref a_p0_kitchen_holders, .ref a_p0_kitchen_stirred])), (a_p0_kitchen_rules, .inr (6, [.int (Int32.ofInt i_p0_kitchen_rules_seats), .int (Int32.ofInt i_p0_kitchen_rules_stirs), .ref a_p0_kitchen_rules_need, .ref a_p0_kitchen_rules_kind, .ref a_p0_kitchen_rules_first, .ref a_p0_kitchen_rules_second, .ref a_p0_kitchen_rules_after])), (a_p0_rows, .inl (G 2, 49, .inr (.inl (zL v_p0_rows))))] sz) := by
  refine Met.ofW (cc := cX3_rowsWithKing) (maxL := 5) (ret := (some .long)) (by decide) rfl ?_
  intro p e s m args below meth c s₁ B hml hv
  obtain ⟨rfl, hsz, hP, hK, hD0⟩ := hv
  have hx := B.exec
  have hb := B.bytes
  have hr := B.returns
  have hts := atoms_spec (ws := wsX3_rowsWithKing) B.pre
  have hown : s.vm.findClass RX3 = some m.cls := findClass_of_methodNamed B.named
  have hlocks := B.notSynchronized
  subst hsz
  have hD := hD0.self (sz := s.heap.size)
  generalize hAe : va_A [(a_p0, .inr (3, [.ref a_p0_kitchen, .ref a_p0_rows, .ref a_p0_later, .ref a_p0_finds])), (a_p0_kitchen, .inr (2, [.ref a_p0_kitchen_rules, .ref a_p0_kitchen_state, .ref a_p0_kitchen_places, .ref a_p0_kitchen_holders, .ref a_p0_kitchen_stirred])), (a_p0_kitchen_rules, .inr (6, [.int (Int32.ofInt i_p0_kitchen_rules_seats), .int (Int32.ofInt i_p0_kitchen_rules_stirs), .ref a_p0_kitchen_rules_need, .ref a_p0_kitchen_rules_kind, .ref a_p0_kitchen_rules_first, .ref a_p0_kitchen_rules_second, .ref a_p0_kitchen_rules_after])), (a_p0_rows, .inl (G 2, 49, .inr (.inl (zL v_p0_rows))))] s.heap.size = A at hD ⊢
  have hA : ∀ q : Nat, s.heap.size ≤ q → A q := fun q h => by rw [← hAe]; exact Or.inr h
  clear hAe hD0
  have hS : va_S A s.heap s.heap [] := va_S.rf
  have hl := lv_entry ([.ref a_p0, .int (Int32.ofInt x1)]) (n := 5) (Nat.le_of_ble_eq_true rfl)
  rw [lg_entry_eq]
  generalize (lg_sl ([.ref a_p0, .int (Int32.ofInt x1)]) ++ List.replicate (5 - (lg_sl ([.ref a_p0, .int (Int32.ofInt x1)])).length) Slot.unset).toArray = ls at hl ⊢
  have hl : lv_has ls 5 [(0, .ref a_p0), (1, .int (Int32.ofInt x1))] := hl
  refine W_nameQ (fun Q hQ => ?_)
  obtain ⟨H, hH⟩ : ∃ H, H = s.heap := ⟨_, rfl⟩
  replace hS : va_S A s.heap H [] := by rw [hH]; exact hS
  replace hP : va_P D vwCl [(a_p0, .inr (3, [.ref a_p0_kitchen, .ref a_p0_rows, .ref a_p0_later, .ref a_p0_finds])), (a_p0_kitchen, .inr (2, [.ref a_p0_kitchen_rules, .ref a_p0_kitchen_state, .ref a_p0_kitchen_places, .ref a_p0_kitchen_holders, .ref a_p0_kitchen_stirred])), (a_p0_kitchen_rules, .inr (6, [.int (Int32.ofInt i_p0_kitchen_rules_seats), .int (Int32.ofInt i_p0_kitchen_rules_stirs), .ref a_p0_kitchen_rules_need, .ref a_p0_kitchen_rules_kind, .ref a_p0_kitchen_rules_first, .ref a_p0_kitchen_rules_second, .ref a_p0_kitchen_rules_after])), (a_p0_rows, .inl (G 2, 49, .inr (.inl (zL v_p0_rows))))] H := by rw [hH]; exact hP
  rw [← hH]
  clear hH
  unfold f_X3_rowsWithKing at hf
  refine lv_lconst (v := Int64.ofInt (0 : Int)) hx hb dX3_rowsWithKing_0 (by decide) ?_
  refine z_topl (fun z1 ez => ?_)
  replace hf := bnd_s hf ez
  clear ez
  refine lv_lstore_n (lv' := [(2, .long (Int64.ofInt z1)), (0, .ref a_p0), (1, .int (Int32.ofInt x1))]) hx hb dX3_rowsWithKing_1 rfl hl (by decide) rfl (fun ls hl => ?_)
  refine lv_iconst (v := Int32.ofInt (0 : Int)) hx hb dX3_rowsWithKing_2 (by decide) ?_
  refine z_topi (fun z2 ez => ?_)
  replace hf := bnd_s hf ez
  clear ez
  refine lv_istore (lv' := [(4, .int (Int32.ofInt z2)), (2, .long (Int64.ofInt z1)), (0, .ref a_p0), (1, .int (Int32.ofInt x1))]) hx hb dX3_rowsWithKing_3 hl (by decide) rfl (fun ls hl => ?_)
  have hq := lq2_i hf
  clear hf
  obtain ⟨B5, eB5, NB5, hf⟩ := hq
  have hB5 : ∀ (n : Nat) (z3 : Int) (z4 : Int) (ls : Array Slot) (H : Heap) (locs : List Loc), lv_has ls 5 [(4, .int (Int32.ofInt z3)), (2, .long (Int64.ofInt z4)), (0, .ref a_p0), (1, .int (Int32.ofInt x1))] → va_P D vwCl [(a_p0, .inr (3, [.ref a_p0_kitchen, .ref a_p0_rows, .ref a_p0_later, .ref a_p0_finds])), (a_p0_kitchen, .inr (2, [.ref a_p0_kitchen_rules, .ref a_p0_kitchen_state, .ref a_p0_kitchen_places, .ref a_p0_kitchen_holders, .ref a_p0_kitchen_stirred])), (a_p0_kitchen_rules, .inr (6, [.int (Int32.ofInt i_p0_kitchen_rules_seats), .int (Int32.ofInt i_p0_kitchen_rules_stirs), .ref a_p0_kitchen_rules_need, .ref a_p0_kitchen_rules_kind, .ref a_p0_kitchen_rules_first, .ref a_p0_kitchen_rules_second, .ref a_p0_kitchen_rules_after])), (a_p0_rows, .inl (G 2, 49, .inr (.inl (zL v_p0_rows))))] H → va_D A [(a_p0, .inr (3, [.ref a_p0_kitchen, .ref a_p0_rows, .ref a_p0_later, .ref a_p0_finds])), (a_p0_kitchen, .inr (2, [.ref a_p0_kitchen_rules, .ref a_p0_kitchen_state, .ref a_p0_kitchen_places, .ref a_p0_kitchen_holders, .ref a_p0_kitchen_stirred])), (a_p0_kitchen_rules, .inr (6, [.int (Int32.ofInt i_p0_kitchen_rules_seats), .int (Int32.ofInt i_p0_kitchen_rules_stirs), .ref a_p0_kitchen_rules_need, .ref a_p0_kitchen_rules_kind, .ref a_p0_kitchen_rules_first, .ref a_p0_kitchen_rules_second, .ref a_p0_kitchen_rules_after])), (a_p0_rows, .inl (G 2, 49, .inr (.inl (zL v_p0_rows))))] → va_S A s.heap H locs → lq2 B5 n z3 z4 = some r → W p l e rm_X3_rowsWithKing s m ([.ref a_p0, .int (Int32.ofInt x1)] : List Value).toArray below meth c H locs 0 0 Q (F0 m 5 ls []) := by
    clear hf hl hP hD hS
    intro n
    induction n with
    | zero =>
      intro z3 z4 ls H locs hl hP hD hS hf
      exact (lq2_0 hf).elim
    | succ n ih5 =>
      intro z3 z4 ls H locs hl hP hD hS hf
      replace hf := lq2_s eB5 hf
      unfold B_X3_rowsWithKing_5 at hf
      refine lv_iload hx hb dX3_rowsWithKing_5 (lv_at hl 0 rfl) ?_
      refine lv_aload_n hx hb dX3_rowsWithKing_7 rfl (lv_at hl 2 rfl) ?_
      refine va_get (D := D) (ci := 3) (v := .ref a_p0_kitchen) (C := RX3) (T := TX3) (N := 4) hx hb hts inX3_rowsWithKing_X3 hown hK hP 0 rfl rfl 0 (by decide) (hts _ mwX3_rowsWithKing_1) (fun _ h9 => h9) rfl dX3_rowsWithKing_8 ?_
      refine va_get (D := D) (ci := 2) (v := .ref a_p0_kitchen_rules) (C := RX2) (T := TX2) (N := 5) hx hb hts inX3_rowsWithKing_X2 hown hK hP 1 rfl rfl 0 (by decide) (hts _ mwX3_rowsWithKing_3) (fun _ h9 => h9) rfl dX3_rowsWithKing_11 ?_
      refine va_get (D := D) (ci := 6) (v := .int (Int32.ofInt i_p0_kitchen_rules_seats)) (C := RX6) (T := TX6) (N := 7) hx hb hts inX3_rowsWithKing_X6 hown hK hP 2 rfl rfl 0 (by decide) (hts _ mwX3_rowsWithKing_5) (fun _ h9 => h9) rfl dX3_rowsWithKing_14 ?_
      have hr5 := ck_c hf
      replace hf := ck_r hf
      have hr6 := ck_c hf
      replace hf := ck_r hf
      refine lv_icmp_ge (tgt := 41) hx hb dX3_rowsWithKing_17 (by decide) (fun cc => ?_) (fun cc => ?_)
      ·
        replace hf := ite_t ((z_le hr6 hr5).mp cc) hf
        clear cc
        refine lv_lload_n hx hb dX3_rowsWithKing_41 rfl (lv_at hl 1 rfl) ?_
        obtain rfl := ou1 hf
        rw [hQ]
        exact W.lret hx hb hr (fun t ht hW => ⟨⟨_, (), rfl, rfl, by rw [ht]; exact hP, va_K.moved hW.alike hK, hD⟩, hS.F ht⟩) hS.2.2 dX3_rowsWithKing_42
      ·
        replace hf := ite_f (fun h9 => cc ((z_le hr6 hr5).mpr h9)) hf
        clear cc
        refine lv_lload_n hx hb dX3_rowsWithKing_20 rfl (lv_at hl 1 rfl) ?_
        refine lv_aload_n hx hb dX3_rowsWithKing_21 rfl (lv_at hl 2 rfl) ?_
        refine va_get (D := D) (ci := 3) (v := .ref a_p0_rows) (C := RX3) (T := TX3) (N := 4) hx hb hts inX3_rowsWithKing_X3 hown hK hP 0 rfl rfl 1 (by decide) (hts _ mwX3_rowsWithKing_6) (fun _ h9 => h9) rfl dX3_rowsWithKing_22 ?_
        refine lv_iload_n hx hb dX3_rowsWithKing_25 rfl (lv_at hl 3 rfl) ?_
        refine lv_bipush (v := Int32.ofInt (7 : Int)) hx hb dX3_rowsWithKing_26 (by decide) ?_
        refine lv_imul hx hb dX3_rowsWithKing_28 (z_ci (Int32.ofInt_mul x1 (7 : Int)) ?_)
        refine lv_iload hx hb dX3_rowsWithKing_29 (lv_at hl 0 rfl) ?_
        refine lv_iadd hx hb dX3_rowsWithKing_31 (z_ci (Int32.ofInt_add (x1 * (7 : Int)) z3) ?_)
        have hc := ck_c hf
        replace hf := ck_r hf
        refine va_lald hx hb hK hP 3 2 rfl rfl (z_ix_in hc) dX3_rowsWithKing_32 (z_cl (z_aldL v_p0_rows hc) ?_)
        clear hc
        refine lv_ladd hx hb dX3_rowsWithKing_33 (z_cl (Int64.ofInt_add z4 (v_p0_rows ((x1 * (7 : Int)) + z3))) ?_)
        refine z_topl (fun z8 ez => ?_)
        replace hf := bnd_s hf ez
        clear ez
        refine lv_lstore_n (lv' := [(2, .long (Int64.ofInt z8)), (4, .int (Int32.ofInt z3)), (0, .ref a_p0), (1, .int (Int32.ofInt x1))]) hx hb dX3_rowsWithKing_34 rfl hl (by decide) rfl (fun ls hl => ?_)
        obtain ⟨z9, ez⟩ : ∃ y : Int, y = (z3 + (1 : Int)) := ⟨_, rfl⟩
        replace hf := bnd_s hf ez
        refine lv_iinc (v := Int32.ofInt z9) (lv' := [(4, .int (Int32.ofInt z9)), (2, .long (Int64.ofInt z8)), (0, .ref a_p0), (1, .int (Int32.ofInt x1))]) hx hb dX3_rowsWithKing_35 hl (k := 1) rfl (by rw [ez]; exact (Int32.ofInt_add _ _).symm) (by decide) rfl (fun ls hl => ?_)
        clear ez
        refine lv_goto (tgt := 5) hx hb dX3_rowsWithKing_38 (by decide) ?_
        exact ih5 _ _ _ _ _ (lv_sub hl [0, 1, 2, 3] rfl) hP hD hS hf
  exact hB5 _ _ _ _ _ _ (lv_sub hl [0, 1, 2, 3] rfl) hP hD hS hf

noncomputable def B_X3_rowsToCrown_6 (x2 : Int) (J7 : (Int → Int) → (Int → Int) → Option (Int × (Int → Int) × (Int → Int) × (Int → Int) × (Int → Int))) (i_p0_kitchen_rules_seats : Int) (i_p0_kitchen_rules_stirs : Int) (v_p0_kitchen_rules_after : (Int → Int)) (w2 : (Int → Int)) (again6 : Int → (Int → Int) → (Int → Int) → Option (Int × (Int → Int) × (Int → Int) × (Int → Int) × (Int → Int))) (z9 : Int) (w10 : (Int → Int)) (w11 : (Int → Int)) : Option (Int × (Int → Int) × (Int → Int) × (Int → Int) × (Int → Int)) := (ck (z_r32 z9) (ck (z_r32 x2) (if x2 ≤ z9 then (J7 w10 w11) else (bd2 (f_X3_goOn i_p0_kitchen_rules_seats i_p0_kitchen_rules_stirs v_p0_kitchen_rules_after w2 w10 w11 (0 : Int)) (fun (w15 : (Int → Int)) (w16 : (Int → Int)) => (bnd (z9 + (1 : Int)) (fun (z17 : Int) => (again6 z17 w15 w16))))))))
noncomputable def f_X3_rowsToCrown (i_p0_kitchen_rules_seats : Int) (i_p0_kitchen_rules_stirs : Int) (v_p0_kitchen_rules_after : (Int → Int)) (i_p0_kitchen_state_bone : Int) (i_p0_kitchen_state_king : Int) (v_p0_kitchen_state_friends : (Int → Int)) (v_p0_kitchen_places : (Int → Int)) (v_p0_kitchen_holders : (Int → Int)) (v_p0_rows : (Int → Int)) (v_p0_later : (Int → Int)) (x1 : Int) (x2 : Int) : Option (Int × (Int → Int) × (Int → Int) × (Int → Int) × (Int → Int)) := (bd3 (f_X3_begin i_p0_kitchen_rules_seats i_p0_kitchen_state_bone i_p0_kitchen_state_king v_p0_kitchen_state_friends v_p0_kitchen_places v_p0_kitchen_holders v_p0_rows) (fun (w1 : (Int → Int)) (w2 : (Int → Int)) (w3 : (Int → Int)) => (bnd (0 : Int) (fun (z4 : Int) => (jn (fun (w5 : (Int → Int)) (w6 : (Int → Int)) => (bd1 (f_X3_rowsWithKing i_p0_kitchen_rules_seats w5 x1) (fun (z8 : Int) => (some (z8, w1, w2, w5, w6))))) (fun (J7 : (Int → Int) → (Int → Int) → Option (Int × (Int → Int) × (Int → Int) × (Int → Int) × (Int → Int))) => (lq3 (B_X3_rowsToCrown_6 x2 J7 i_p0_kitchen_rules_seats i_p0_kitchen_rules_stirs v_p0_kitchen_rules_after w2) 1000 z4 w3 v_p0_later)))))))
abbrev rm_X3_rowsToCrown : Room := { frames := 4, cells := 0, slots := 0, locals := 90 }
theorem hdV_yX3_begin_RX3 : yX3_begin.cls = RX3 ∧ yX3_begin.cls ≠ "java/lang/invoke/MethodHandle" ∧ yX3_begin.cls ≠ "java/lang/invoke/VarHandle" ∧ (parseMethodDescriptor yX3_begin.desc).map (fun d => d.parameters.length) = some 0 := by decide +kernel
theorem hdV_yX3_rowsWithKing_RX3 : yX3_rowsWithKing.cls = RX3 ∧ yX3_rowsWithKing.cls ≠ "java/lang/invoke/MethodHandle" ∧ yX3_rowsWithKing.cls ≠ "java/lang/invoke/VarHandle" ∧ (parseMethodDescriptor yX3_rowsWithKing.desc).map (fun d => d.parameters.length) = some 1 := by decide +kernel
theorem hdV_yX3_goOn_RX3 : yX3_goOn.cls = RX3 ∧ yX3_goOn.cls ≠ "java/lang/invoke/MethodHandle" ∧ yX3_goOn.cls ≠ "java/lang/invoke/VarHandle" ∧ (parseMethodDescriptor yX3_goOn.desc).map (fun d => d.parameters.length) = some 1 := by decide +kernel
set_option maxHeartbeats 8000000 in
set_option maxRecDepth 100000 in
theorem c_X3_rowsToCrown (l : Launch) (D : va_G) (G : Nat → ClassId) (sz : Nat) (a_p0 : Nat) (a_p0_kitchen : Nat) (a_p0_rows : Nat) (a_p0_later : Nat) (a_p0_finds : Nat) (a_p0_kitchen_rules : Nat) (a_p0_kitchen_state : Nat) (a_p0_kitchen_places : Nat) (a_p0_kitchen_holders : Nat) (a_p0_kitchen_stirred : Nat) (a_p0_kitchen_rules_need : Nat) (a_p0_kitchen_rules_kind : Nat) (a_p0_kitchen_rules_first : Nat) (a_p0_kitchen_rules_second : Nat) (a_p0_kitchen_rules_after : Nat) (a_p0_kitchen_state_pieces : Nat) (a_p0_kitchen_state_friends : Nat) (a_p0_kitchen_state_spoons : Nat) (a_p0_kitchen_state_eaten : Nat) (a_p0_kitchen_state_seen : Nat) (i_p0_kitchen_rules_seats : Int) (i_p0_kitchen_rules_stirs : Int) (v_p0_kitchen_rules_after : (Int → Int)) (i_p0_kitchen_state_seenDays : Int) (i_p0_kitchen_state_bone : Int) (i_p0_kitchen_state_king : Int) (i_p0_kitchen_state_days : Int) (v_p0_kitchen_state_friends : (Int → Int)) (v_p0_kitchen_places : (Int → Int)) (v_p0_kitchen_holders : (Int → Int)) (v_p0_rows : (Int → Int)) (v_p0_later : (Int → Int)) (x1 : Int) (x2 : Int) (r : Int) (o_v_p0_kitchen_places : (Int → Int)) (o_v_p0_kitchen_holders : (Int → Int)) (o_v_p0_rows : (Int → Int)) (o_v_p0_later : (Int → Int)) (hf : f_X3_rowsToCrown i_p0_kitchen_rules_seats i_p0_kitchen_rules_stirs v_p0_kitchen_rules_after i_p0_kitchen_state_bone i_p0_kitchen_state_king v_p0_kitchen_state_friends v_p0_kitchen_places v_p0_kitchen_holders v_p0_rows v_p0_later x1 x2 = some (r, o_v_p0_kitchen_places, o_v_p0_kitchen_holders, o_v_p0_rows, o_v_p0_later)) : Met l yX3_rowsToCrown wsX3_rowsToCrown rm_X3_rowsToCrown (pcG D G [.ref a_p0, .int (Int32.ofInt x1), .int (Int32.ofInt x2)] sz [(a_p0, .inr (3, [.ref a_p0_kitchen, .ref a_p0_rows, .ref a_p0_later, .ref a_p0_finds])), (a_p0_kitchen, .inr (2, [.ref a_p0_kitchen_rules, .ref a_p0_kitchen_state, .ref a_p0_kitchen_places, .ref a_p0_kitchen_holders, .ref a_p0_kitchen_stirred])), (a_p0_kitchen_rules, .inr (6, [.int (Int32.ofInt i_p0_kitchen_rules_seats), .int (Int32.ofInt i_p0_kitchen_rules_stirs), .ref a_p0_kitchen_rules_need, .ref a_p0_kitchen_rules_kind, .ref a_p0_kitchen_rules_first, .ref a_p0_kitchen_rules_second, .ref a_p0_kitchen_rules_after])), (a_p0_kitchen_rules_after, .inl (G 1, 35, .inl (zA v_p0_kitchen_rules_after))), (a_p0_kitchen_state, .inr (8, [.ref a_p0_kitchen_state_pieces, .ref a_p0_kitchen_state_friends, .ref a_p0_kitchen_state_spoons, .ref a_p0_kitchen_state_eaten, .ref a_p0_kitchen_state_seen, .int (Int32.ofInt i_p0_kitchen_state_seenDays), .int (Int32.ofInt i_p0_kitchen_state_bone), .int (Int32.ofInt i_p0_kitchen_state_king), .int (Int32.ofInt i_p0_kitchen_state_days)])), (a_p0_kitchen_state_friends, .inl (G 1, 7, .inl (zA v_p0_kitchen_state_friends))), (a_p0_kitchen_places, .inl (G 1, 49, .inl (zA v_p0_kitchen_places))), (a_p0_kitchen_holders, .inl (G 1, 49, .inl (zA v_p0_kitchen_holders))), (a_p0_rows, .inl (G 2, 49, .inr (.inl (zL v_p0_rows)))), (a_p0_later, .inl (G 2, 49, .inr (.inl (zL v_p0_later))))]) (qcL D G (Int64.ofInt r) [(a_p0, .inr (3, [.ref a_p0_kitchen, .ref a_p0_rows, .ref a_p0_later, .ref a_p0_finds])), (a_p0_kitchen, .inr (2, [.ref a_p0_kitchen_rules, .ref a_p0_kitchen_state, .ref a_p0_kitchen_places, .ref a_p0_kitchen_holders, .ref a_p0_kitchen_stirred])), (a_p0_kitchen_rules, .inr (6, [.int (Int32.ofInt i_p0_kitchen_rules_seats), .int (Int32.ofInt i_p0_kitchen_rules_stirs), .ref a_p0_kitchen_rules_need, .ref a_p0_kitchen_rules_kind, .ref a_p0_kitchen_rules_first, .ref a_p0_kitchen_rules_second, .ref a_p0_kitchen_rules_after])), (a_p0_kitchen_rules_after, .inl (G 1, 35, .inl (zA v_p0_kitchen_rules_after))), (a_p0_kitchen_state, .inr (8, [.ref a_p0_kitchen_state_pieces, .ref a_p0_kitchen_state_friends, .ref a_p0_kitchen_state_spoons, .ref a_p0_kitchen_state_eaten, .ref a_p0_kitchen_state_seen, .int (Int32.ofInt i_p0_kitchen_state_seenDays), .int (Int32.ofInt i_p0_kitchen_state_bone), .int (Int32.ofInt i_p0_kitchen_state_king), .int (Int32.ofInt i_p0_kitchen_state_days)])), (a_p0_kitchen_state_friends, .inl (G 1, 7, .inl (zA v_p0_kitchen_state_friends))), (a_p0_kitchen_places, .inl (G 1, 49, .inl (zA o_v_p0_kitchen_places))), (a_p0_kitchen_holders, .inl (G 1, 49, .inl (zA o_v_p0_kitchen_holders))), (a_p0_rows, .inl (G 2, 49, .inr (.inl (zL o_v_p0_rows)))), (a_p0_later, .inl (G 2, 49, .inr (.inl (zL o_v_p0_later))))] (va_A [(a_p0, .inr (3, [.ref a_p0_kitchen, .ref a_p0_rows, .ref a_p0_later, .ref a_p0_finds])), (a_p0_kitchen, .inr (2, [.ref a_p0_kitchen_rules, .ref a_p0_kitchen_state, .ref a_p0_kitchen_places, .ref a_p0_kitchen_holders, .ref a_p0_kitchen_stirred])), (a_p0_kitchen_rules, .inr (6, [.int (Int32.ofInt i_p0_kitchen_rules_seats), .int (Int32.ofInt i_p0_kitchen_rules_stirs), .ref a_p0_kitchen_rules_need, .ref a_p0_kitchen_rules_kind, .ref a_p0_kitchen_rules_first, .ref a_p0_kitchen_rules_second, .ref a_p0_kitchen_rules_after])), (a_p0_kitchen_rules_after, .inl (G 1, 35, .inl (zA v_p0_kitchen_rules_after))), (a_p0_kitchen_state, .inr (8, [.ref a_p0_kitchen_state_pieces, .ref a_p0_kitchen_state_friends, .ref a_p0_kitchen_state_spoons, .ref a_p0_kitchen_state_eaten, .ref a_p0_kitchen_state_seen, .int (Int32.ofInt i_p0_kitchen_state_seenDays), .int (Int32.ofInt i_p0_kitchen_state_bone), .int (Int32.ofInt i_p0_kitchen_state_king), .int (Int32.ofInt i_p0_kitchen_state_days)])), (a_p0_kitchen_state_friends, .inl (G 1, 7, .inl (zA v_p0_kitchen_state_friends))), (a_p0_kitchen_places, .inl (G 1, 49, .inl (zA v_p0_kitchen_places))), (a_p0_kitchen_holders, .inl (G 1, 49, .inl (zA v_p0_kitchen_holders))), (a_p0_rows, .inl (G 2, 49, .inr (.inl (zL v_p0_rows)))), (a_p0_later, .inl (G 2, 49, .inr (.inl (zL v_p0_later))))] sz)) 0 0 (va_A [(a_p0, .inr (3, [.ref a_p0_kitchen, .ref a_p0_rows, .ref a_p0_later, .ref a_p0_finds])), (a_p0_kitchen, .inr (2, [.ref a_p0_kitchen_rules, .ref a_p0_kitchen_state, .ref a_p0_kitchen_places, .ref a_p0_kitchen_holders, .ref a_p0_kitchen_stirred])), (a_p0_kitchen_rules, .inr (6, [.int (Int32.ofInt i_p0_kitchen_rules_seats), .int (Int32.ofInt i_p0_kitchen_rules_stirs), .ref a_p0_kitchen_rules_need, .ref a_p0_kitchen_rules_kind, .ref a_p0_kitchen_rules_first, .ref a_p0_kitchen_rules_second, .ref a_p0_kitchen_rules_after])), (a_p0_kitchen_rules_after, .inl (G 1, 35, .inl (zA v_p0_kitchen_rules_after))), (a_p0_kitchen_state, .inr (8, [.ref a_p0_kitchen_state_pieces, .ref a_p0_kitchen_state_friends, .ref a_p0_kitchen_state_spoons, .ref a_p0_kitchen_state_eaten, .ref a_p0_kitchen_state_seen, .int (Int32.ofInt i_p0_kitchen_state_seenDays), .int (Int32.ofInt i_p0_kitchen_state_bone), .int (Int32.ofInt i_p0_kitchen_state_king), .int (Int32.ofInt i_p0_kitchen_state_days)])), (a_p0_kitchen_state_friends, .inl (G 1, 7, .inl (zA v_p0_kitchen_state_friends))), (a_p0_kitchen_places, .inl (G 1, 49, .inl (zA v_p0_kitchen_places))), (a_p0_kitchen_holders, .inl (G 1, 49, .inl (zA v_p0_kitchen_holders))), (a_p0_rows, .inl (G 2, 49, .inr (.inl (zL v_p0_rows)))), (a_p0_later, .inl (G 2, 49, .inr (.inl (zL v_p0_later))))] sz) := by
  refine Met.ofW (cc := cX3_rowsToCrown) (maxL := 4) (ret := (some .long)) (by decide) rfl ?_
  intro p e s m args below meth c s₁ B hml hv
  obtain ⟨rfl, hsz, hP, hK, hD0⟩ := hv
  have hx := B.exec
  have hb := B.bytes
  have hr := B.returns
  have hts := atoms_spec (ws := wsX3_rowsToCrown) B.pre
  have hown : s.vm.findClass RX3 = some m.cls := findClass_of_methodNamed B.named
  have hlocks := B.notSynchronized
  subst hsz
  have hD := hD0.self (sz := s.heap.size)
  generalize hAe : va_A [(a_p0, .inr (3, [.ref a_p0_kitchen, .ref a_p0_rows, .ref a_p0_later, .ref a_p0_finds])), (a_p0_kitchen, .inr (2, [.ref a_p0_kitchen_rules, .ref a_p0_kitchen_state, .ref a_p0_kitchen_places, .ref a_p0_kitchen_holders, .ref a_p0_kitchen_stirred])), (a_p0_kitchen_rules, .inr (6, [.int (Int32.ofInt i_p0_kitchen_rules_seats), .int (Int32.ofInt i_p0_kitchen_rules_stirs), .ref a_p0_kitchen_rules_need, .ref a_p0_kitchen_rules_kind, .ref a_p0_kitchen_rules_first, .ref a_p0_kitchen_rules_second, .ref a_p0_kitchen_rules_after])), (a_p0_kitchen_rules_after, .inl (G 1, 35, .inl (zA v_p0_kitchen_rules_after))), (a_p0_kitchen_state, .inr (8, [.ref a_p0_kitchen_state_pieces, .ref a_p0_kitchen_state_friends, .ref a_p0_kitchen_state_spoons, .ref a_p0_kitchen_state_eaten, .ref a_p0_kitchen_state_seen, .int (Int32.ofInt i_p0_kitchen_state_seenDays), .int (Int32.ofInt i_p0_kitchen_state_bone), .int (Int32.ofInt i_p0_kitchen_state_king), .int (Int32.ofInt i_p0_kitchen_state_days)])), (a_p0_kitchen_state_friends, .inl (G 1, 7, .inl (zA v_p0_kitchen_state_friends))), (a_p0_kitchen_places, .inl (G 1, 49, .inl (zA v_p0_kitchen_places))), (a_p0_kitchen_holders, .inl (G 1, 49, .inl (zA v_p0_kitchen_holders))), (a_p0_rows, .inl (G 2, 49, .inr (.inl (zL v_p0_rows)))), (a_p0_later, .inl (G 2, 49, .inr (.inl (zL v_p0_later))))] s.heap.size = A at hD ⊢
  have hA : ∀ q : Nat, s.heap.size ≤ q → A q := fun q h => by rw [← hAe]; exact Or.inr h
  clear hAe hD0
  have hS : va_S A s.heap s.heap [] := va_S.rf
  have hl := lv_entry ([.ref a_p0, .int (Int32.ofInt x1), .int (Int32.ofInt x2)]) (n := 4) (Nat.le_of_ble_eq_true rfl)
  rw [lg_entry_eq]
  generalize (lg_sl ([.ref a_p0, .int (Int32.ofInt x1), .int (Int32.ofInt x2)]) ++ List.replicate (4 - (lg_sl ([.ref a_p0, .int (Int32.ofInt x1), .int (Int32.ofInt x2)])).length) Slot.unset).toArray = ls at hl ⊢
  have hl : lv_has ls 4 [(0, .ref a_p0), (1, .int (Int32.ofInt x1)), (2, .int (Int32.ofInt x2))] := hl
  refine W_nameQ (fun Q hQ => ?_)
  obtain ⟨H, hH⟩ : ∃ H, H = s.heap := ⟨_, rfl⟩
  replace hS : va_S A s.heap H [] := by rw [hH]; exact hS
  replace hP : va_P D vwCl [(a_p0, .inr (3, [.ref a_p0_kitchen, .ref a_p0_rows, .ref a_p0_later, .ref a_p0_finds])), (a_p0_kitchen, .inr (2, [.ref a_p0_kitchen_rules, .ref a_p0_kitchen_state, .ref a_p0_kitchen_places, .ref a_p0_kitchen_holders, .ref a_p0_kitchen_stirred])), (a_p0_kitchen_rules, .inr (6, [.int (Int32.ofInt i_p0_kitchen_rules_seats), .int (Int32.ofInt i_p0_kitchen_rules_stirs), .ref a_p0_kitchen_rules_need, .ref a_p0_kitchen_rules_kind, .ref a_p0_kitchen_rules_first, .ref a_p0_kitchen_rules_second, .ref a_p0_kitchen_rules_after])), (a_p0_kitchen_rules_after, .inl (G 1, 35, .inl (zA v_p0_kitchen_rules_after))), (a_p0_kitchen_state, .inr (8, [.ref a_p0_kitchen_state_pieces, .ref a_p0_kitchen_state_friends, .ref a_p0_kitchen_state_spoons, .ref a_p0_kitchen_state_eaten, .ref a_p0_kitchen_state_seen, .int (Int32.ofInt i_p0_kitchen_state_seenDays), .int (Int32.ofInt i_p0_kitchen_state_bone), .int (Int32.ofInt i_p0_kitchen_state_king), .int (Int32.ofInt i_p0_kitchen_state_days)])), (a_p0_kitchen_state_friends, .inl (G 1, 7, .inl (zA v_p0_kitchen_state_friends))), (a_p0_kitchen_places, .inl (G 1, 49, .inl (zA v_p0_kitchen_places))), (a_p0_kitchen_holders, .inl (G 1, 49, .inl (zA v_p0_kitchen_holders))), (a_p0_rows, .inl (G 2, 49, .inr (.inl (zL v_p0_rows)))), (a_p0_later, .inl (G 2, 49, .inr (.inl (zL v_p0_later))))] H := by rw [hH]; exact hP
  rw [← hH]
  clear hH
  unfold f_X3_rowsToCrown at hf
  refine lv_aload_n hx hb dX3_rowsToCrown_0 rfl (lv_at hl 0 rfl) ?_
  have hq := bd3_s hf
  clear hf
  obtain ⟨w1, w2, w3, hcall, hf⟩ := hq
  refine gsV (ws' := [(a_p0, .inr (3, [.ref a_p0_kitchen, .ref a_p0_rows, .ref a_p0_later, .ref a_p0_finds])), (a_p0_kitchen, .inr (2, [.ref a_p0_kitchen_rules, .ref a_p0_kitchen_state, .ref a_p0_kitchen_places, .ref a_p0_kitchen_holders, .ref a_p0_kitchen_stirred])), (a_p0_kitchen_rules, .inr (6, [.int (Int32.ofInt i_p0_kitchen_rules_seats), .int (Int32.ofInt i_p0_kitchen_rules_stirs), .ref a_p0_kitchen_rules_need, .ref a_p0_kitchen_rules_kind, .ref a_p0_kitchen_rules_first, .ref a_p0_kitchen_rules_second, .ref a_p0_kitchen_rules_after])), (a_p0_kitchen_rules_after, .inl (G 1, 35, .inl (zA v_p0_kitchen_rules_after))), (a_p0_kitchen_state, .inr (8, [.ref a_p0_kitchen_state_pieces, .ref a_p0_kitchen_state_friends, .ref a_p0_kitchen_state_spoons, .ref a_p0_kitchen_state_eaten, .ref a_p0_kitchen_state_seen, .int (Int32.ofInt i_p0_kitchen_state_seenDays), .int (Int32.ofInt i_p0_kitchen_state_bone), .int (Int32.ofInt i_p0_kitchen_state_king), .int (Int32.ofInt i_p0_kitchen_state_days)])), (a_p0_kitchen_state_friends, .inl (G 1, 7, .inl (zA v_p0_kitchen_state_friends))), (a_p0_kitchen_places, .inl (G 1, 49, .inl (zA w1))), (a_p0_kitchen_holders, .inl (G 1, 49, .inl (zA w2))), (a_p0_rows, .inl (G 2, 49, .inr (.inl (zL w3)))), (a_p0_later, .inl (G 2, 49, .inr (.inl (zL v_p0_later))))]) (va_runV (As := []) (rest := []) ⟨hx, hb, hml, hown, hts⟩ (c_X3_begin (l := l) (D := D) (G := G) (sz := H.size) (a_p0 := a_p0) (a_p0_kitchen := a_p0_kitchen) (a_p0_rows := a_p0_rows) (a_p0_later := a_p0_later) (a_p0_finds := a_p0_finds) (a_p0_kitchen_rules := a_p0_kitchen_rules) (a_p0_kitchen_state := a_p0_kitchen_state) (a_p0_kitchen_places := a_p0_kitchen_places) (a_p0_kitchen_holders := a_p0_kitchen_holders) (a_p0_kitchen_stirred := a_p0_kitchen_stirred) (a_p0_kitchen_rules_need := a_p0_kitchen_rules_need) (a_p0_kitchen_rules_kind := a_p0_kitchen_rules_kind) (a_p0_kitchen_rules_first := a_p0_kitchen_rules_first) (a_p0_kitchen_rules_second := a_p0_kitchen_rules_second) (a_p0_kitchen_rules_after := a_p0_kitchen_rules_after) (a_p0_kitchen_state_pieces := a_p0_kitchen_state_pieces) (a_p0_kitchen_state_friends := a_p0_kitchen_state_friends) (a_p0_kitchen_state_spoons := a_p0_kitchen_state_spoons) (a_p0_kitchen_state_eaten := a_p0_kitchen_state_eaten) (a_p0_kitchen_state_seen := a_p0_kitchen_state_seen) (i_p0_kitchen_rules_seats := i_p0_kitchen_rules_seats) (i_p0_kitchen_rules_stirs := i_p0_kitchen_rules_stirs) (i_p0_kitchen_state_seenDays := i_p0_kitchen_state_seenDays) (i_p0_kitchen_state_bone := i_p0_kitchen_state_bone) (i_p0_kitchen_state_king := i_p0_kitchen_state_king) (i_p0_kitchen_state_days := i_p0_kitchen_state_days) (v_p0_kitchen_state_friends := v_p0_kitchen_state_friends) (v_p0_kitchen_places := v_p0_kitchen_places) (v_p0_kitchen_holders := v_p0_kitchen_holders) (v_p0_rows := v_p0_rows) (o_v_p0_kitchen_places := w1) (o_v_p0_kitchen_holders := w2) (o_v_p0_rows := w3) (hf := hcall)) (cwV 0 hts gX3_rowsToCrown_X3_begin rfl rfl rfl hdV_yX3_begin_RX3 ⟨Nat.le_of_ble_eq_true rfl, Nat.le_of_ble_eq_true rfl⟩) (preG_V (ci := 3) (q := (RX3, TX3, 4)) (hP.sub [0, 1, 2, 4, 5, 6, 7, 8] rfl) (hD.sub [0, 1, 2, 4, 5, 6, 7, 8] rfl rfl) hK rfl rfl) rfl rfl hl.1 rfl (lv_room (Nat.le_of_ble_eq_true rfl)) dX3_rowsToCrown_1 ⟨Nat.le_of_ble_eq_true rfl, Nat.le_of_ble_eq_true rfl⟩) hP hD hS hA [0, 1, 2, 4, 5, 6, 7, 8] rfl rfl rfl (fun H locs hP hD hS => ?_)
  clear hcall
  refine lv_iconst (v := Int32.ofInt (0 : Int)) hx hb dX3_rowsToCrown_4 (by decide) ?_
  refine z_topi (fun z4 ez => ?_)
  replace hf := bnd_s hf ez
  clear ez
  refine lv_istore_n (lv' := [(3, .int (Int32.ofInt z4)), (0, .ref a_p0), (1, .int (Int32.ofInt x1)), (2, .int (Int32.ofInt x2))]) hx hb dX3_rowsToCrown_5 rfl hl (by decide) rfl (fun ls hl => ?_)
  have hq := jn_i hf
  clear hf
  obtain ⟨J7, eJ7, hf⟩ := hq
  have hJ7 : ∀ (w5 : (Int → Int)) (w6 : (Int → Int)) (ls : Array Slot) (H : Heap) (locs : List Loc), lv_has ls 4 [(0, .ref a_p0), (1, .int (Int32.ofInt x1))] → va_P D vwCl [(a_p0, .inr (3, [.ref a_p0_kitchen, .ref a_p0_rows, .ref a_p0_later, .ref a_p0_finds])), (a_p0_kitchen, .inr (2, [.ref a_p0_kitchen_rules, .ref a_p0_kitchen_state, .ref a_p0_kitchen_places, .ref a_p0_kitchen_holders, .ref a_p0_kitchen_stirred])), (a_p0_kitchen_rules, .inr (6, [.int (Int32.ofInt i_p0_kitchen_rules_seats), .int (Int32.ofInt i_p0_kitchen_rules_stirs), .ref a_p0_kitchen_rules_need, .ref a_p0_kitchen_rules_kind, .ref a_p0_kitchen_rules_first, .ref a_p0_kitchen_rules_second, .ref a_p0_kitchen_rules_after])), (a_p0_kitchen_rules_after, .inl (G 1, 35, .inl (zA v_p0_kitchen_rules_after))), (a_p0_kitchen_state, .inr (8, [.ref a_p0_kitchen_state_pieces, .ref a_p0_kitchen_state_friends, .ref a_p0_kitchen_state_spoons, .ref a_p0_kitchen_state_eaten, .ref a_p0_kitchen_state_seen, .int (Int32.ofInt i_p0_kitchen_state_seenDays), .int (Int32.ofInt i_p0_kitchen_state_bone), .int (Int32.ofInt i_p0_kitchen_state_king), .int (Int32.ofInt i_p0_kitchen_state_days)])), (a_p0_kitchen_state_friends, .inl (G 1, 7, .inl (zA v_p0_kitchen_state_friends))), (a_p0_kitchen_places, .inl (G 1, 49, .inl (zA w1))), (a_p0_kitchen_holders, .inl (G 1, 49, .inl (zA w2))), (a_p0_rows, .inl (G 2, 49, .inr (.inl (zL w5)))), (a_p0_later, .inl (G 2, 49, .inr (.inl (zL w6))))] H → va_D A [(a_p0, .inr (3, [.ref a_p0_kitchen, .ref a_p0_rows, .ref a_p0_later, .ref a_p0_finds])), (a_p0_kitchen, .inr (2, [.ref a_p0_kitchen_rules, .ref a_p0_kitchen_state, .ref a_p0_kitchen_places, .ref a_p0_kitchen_holders, .ref a_p0_kitchen_stirred])), (a_p0_kitchen_rules, .inr (6, [.int (Int32.ofInt i_p0_kitchen_rules_seats), .int (Int32.ofInt i_p0_kitchen_rules_stirs), .ref a_p0_kitchen_rules_need, .ref a_p0_kitchen_rules_kind, .ref a_p0_kitchen_rules_first, .ref a_p0_kitchen_rules_second, .ref a_p0_kitchen_rules_after])), (a_p0_kitchen_rules_after, .inl (G 1, 35, .inl (zA v_p0_kitchen_rules_after))), (a_p0_kitchen_state, .inr (8, [.ref a_p0_kitchen_state_pieces, .ref a_p0_kitchen_state_friends, .ref a_p0_kitchen_state_spoons, .ref a_p0_kitchen_state_eaten, .ref a_p0_kitchen_state_seen, .int (Int32.ofInt i_p0_kitchen_state_seenDays), .int (Int32.ofInt i_p0_kitchen_state_bone), .int (Int32.ofInt i_p0_kitchen_state_king), .int (Int32.ofInt i_p0_kitchen_state_days)])), (a_p0_kitchen_state_friends, .inl (G 1, 7, .inl (zA v_p0_kitchen_state_friends))), (a_p0_kitchen_places, .inl (G 1, 49, .inl (zA w1))), (a_p0_kitchen_holders, .inl (G 1, 49, .inl (zA w2))), (a_p0_rows, .inl (G 2, 49, .inr (.inl (zL w5)))), (a_p0_later, .inl (G 2, 49, .inr (.inl (zL w6))))] → va_S A s.heap H locs → J7 w5 w6 = some (r, o_v_p0_kitchen_places, o_v_p0_kitchen_holders, o_v_p0_rows, o_v_p0_later) → W p l e rm_X3_rowsToCrown s m ([.ref a_p0, .int (Int32.ofInt x1), .int (Int32.ofInt x2)] : List Value).toArray below meth c H locs 0 0 Q (F0 m 22 ls []) := by
    clear hf hl hP hD hS
    intro w5 w6 ls H locs hl hP hD hS hf
    replace hf := jn2_s eJ7 hf
    refine lv_aload_n hx hb dX3_rowsToCrown_22 rfl (lv_at hl 0 rfl) ?_
    refine lv_iload_n hx hb dX3_rowsToCrown_23 rfl (lv_at hl 1 rfl) ?_
    have hq := bd1_s hf
    clear hf
    obtain ⟨z8, hcall, hf⟩ := hq
    refine gnL (va_runV (As := [.int (Int32.ofInt x1)]) (rest := []) ⟨hx, hb, hml, hown, hts⟩ (c_X3_rowsWithKing (l := l) (D := D) (G := G) (sz := H.size) (a_p0 := a_p0) (a_p0_kitchen := a_p0_kitchen) (a_p0_rows := a_p0_rows) (a_p0_later := a_p0_later) (a_p0_finds := a_p0_finds) (a_p0_kitchen_rules := a_p0_kitchen_rules) (a_p0_kitchen_state := a_p0_kitchen_state) (a_p0_kitchen_places := a_p0_kitchen_places) (a_p0_kitchen_holders := a_p0_kitchen_holders) (a_p0_kitchen_stirred := a_p0_kitchen_stirred) (a_p0_kitchen_rules_need := a_p0_kitchen_rules_need) (a_p0_kitchen_rules_kind := a_p0_kitchen_rules_kind) (a_p0_kitchen_rules_first := a_p0_kitchen_rules_first) (a_p0_kitchen_rules_second := a_p0_kitchen_rules_second) (a_p0_kitchen_rules_after := a_p0_kitchen_rules_after) (i_p0_kitchen_rules_seats := i_p0_kitchen_rules_seats) (i_p0_kitchen_rules_stirs := i_p0_kitchen_rules_stirs) (v_p0_rows := w5) (x1 := x1) (r := z8) (hf := hcall)) (cwV 1 hts gX3_rowsToCrown_X3_rowsWithKing rfl rfl rfl hdV_yX3_rowsWithKing_RX3 ⟨Nat.le_of_ble_eq_true rfl, Nat.le_of_ble_eq_true rfl⟩) (preG_V (ci := 3) (q := (RX3, TX3, 4)) (hP.sub [0, 1, 2, 8] rfl) (hD.sub [0, 1, 2, 8] rfl rfl) hK rfl rfl) rfl rfl hl.1 rfl (lv_room (Nat.le_of_ble_eq_true rfl)) dX3_rowsToCrown_24 ⟨Nat.le_of_ble_eq_true rfl, Nat.le_of_ble_eq_true rfl⟩) hP hD hS hA [0, 1, 2, 8] rfl (fun H locs hP hD hS => ?_)
    clear hcall
    obtain ⟨rfl, rfl, rfl, rfl, rfl⟩ := ou5 hf
    rw [hQ]
    exact W.lret hx hb hr (fun t ht hW => ⟨⟨_, (), rfl, rfl, by rw [ht]; exact hP, va_K.moved hW.alike hK, hD⟩, hS.F ht⟩) hS.2.2 dX3_rowsToCrown_27
  have hq := lq3_i hf
  clear hf
  obtain ⟨B12, eB12, NB12, hf⟩ := hq
  have hB12 : ∀ (n : Nat) (z9 : Int) (w10 : (Int → Int)) (w11 : (Int → Int)) (ls : Array Slot) (H : Heap) (locs : List Loc), lv_has ls 4 [(3, .int (Int32.ofInt z9)), (0, .ref a_p0), (1, .int (Int32.ofInt x1)), (2, .int (Int32.ofInt x2))] → va_P D vwCl [(a_p0, .inr (3, [.ref a_p0_kitchen, .ref a_p0_rows, .ref a_p0_later, .ref a_p0_finds])), (a_p0_kitchen, .inr (2, [.ref a_p0_kitchen_rules, .ref a_p0_kitchen_state, .ref a_p0_kitchen_places, .ref a_p0_kitchen_holders, .ref a_p0_kitchen_stirred])), (a_p0_kitchen_rules, .inr (6, [.int (Int32.ofInt i_p0_kitchen_rules_seats), .int (Int32.ofInt i_p0_kitchen_rules_stirs), .ref a_p0_kitchen_rules_need, .ref a_p0_kitchen_rules_kind, .ref a_p0_kitchen_rules_first, .ref a_p0_kitchen_rules_second, .ref a_p0_kitchen_rules_after])), (a_p0_kitchen_rules_after, .inl (G 1, 35, .inl (zA v_p0_kitchen_rules_after))), (a_p0_kitchen_state, .inr (8, [.ref a_p0_kitchen_state_pieces, .ref a_p0_kitchen_state_friends, .ref a_p0_kitchen_state_spoons, .ref a_p0_kitchen_state_eaten, .ref a_p0_kitchen_state_seen, .int (Int32.ofInt i_p0_kitchen_state_seenDays), .int (Int32.ofInt i_p0_kitchen_state_bone), .int (Int32.ofInt i_p0_kitchen_state_king), .int (Int32.ofInt i_p0_kitchen_state_days)])), (a_p0_kitchen_state_friends, .inl (G 1, 7, .inl (zA v_p0_kitchen_state_friends))), (a_p0_kitchen_places, .inl (G 1, 49, .inl (zA w1))), (a_p0_kitchen_holders, .inl (G 1, 49, .inl (zA w2))), (a_p0_rows, .inl (G 2, 49, .inr (.inl (zL w10)))), (a_p0_later, .inl (G 2, 49, .inr (.inl (zL w11))))] H → va_D A [(a_p0, .inr (3, [.ref a_p0_kitchen, .ref a_p0_rows, .ref a_p0_later, .ref a_p0_finds])), (a_p0_kitchen, .inr (2, [.ref a_p0_kitchen_rules, .ref a_p0_kitchen_state, .ref a_p0_kitchen_places, .ref a_p0_kitchen_holders, .ref a_p0_kitchen_stirred])), (a_p0_kitchen_rules, .inr (6, [.int (Int32.ofInt i_p0_kitchen_rules_seats), .int (Int32.ofInt i_p0_kitchen_rules_stirs), .ref a_p0_kitchen_rules_need, .ref a_p0_kitchen_rules_kind, .ref a_p0_kitchen_rules_first, .ref a_p0_kitchen_rules_second, .ref a_p0_kitchen_rules_after])), (a_p0_kitchen_rules_after, .inl (G 1, 35, .inl (zA v_p0_kitchen_rules_after))), (a_p0_kitchen_state, .inr (8, [.ref a_p0_kitchen_state_pieces, .ref a_p0_kitchen_state_friends, .ref a_p0_kitchen_state_spoons, .ref a_p0_kitchen_state_eaten, .ref a_p0_kitchen_state_seen, .int (Int32.ofInt i_p0_kitchen_state_seenDays), .int (Int32.ofInt i_p0_kitchen_state_bone), .int (Int32.ofInt i_p0_kitchen_state_king), .int (Int32.ofInt i_p0_kitchen_state_days)])), (a_p0_kitchen_state_friends, .inl (G 1, 7, .inl (zA v_p0_kitchen_state_friends))), (a_p0_kitchen_places, .inl (G 1, 49, .inl (zA w1))), (a_p0_kitchen_holders, .inl (G 1, 49, .inl (zA w2))), (a_p0_rows, .inl (G 2, 49, .inr (.inl (zL w10)))), (a_p0_later, .inl (G 2, 49, .inr (.inl (zL w11))))] → va_S A s.heap H locs → lq3 B12 n z9 w10 w11 = some (r, o_v_p0_kitchen_places, o_v_p0_kitchen_holders, o_v_p0_rows, o_v_p0_later) → W p l e rm_X3_rowsToCrown s m ([.ref a_p0, .int (Int32.ofInt x1), .int (Int32.ofInt x2)] : List Value).toArray below meth c H locs 0 0 Q (F0 m 6 ls []) := by
    clear hf hl hP hD hS
    intro n
    induction n with
    | zero =>
      intro z9 w10 w11 ls H locs hl hP hD hS hf
      exact (lq3_0 hf).elim
    | succ n ih6 =>
      intro z9 w10 w11 ls H locs hl hP hD hS hf
      replace hf := lq3_s eB12 hf
      unfold B_X3_rowsToCrown_6 at hf
      refine lv_iload_n hx hb dX3_rowsToCrown_6 rfl (lv_at hl 0 rfl) ?_
      refine lv_iload_n hx hb dX3_rowsToCrown_7 rfl (lv_at hl 3 rfl) ?_
      have hr12 := ck_c hf
      replace hf := ck_r hf
      have hr13 := ck_c hf
      replace hf := ck_r hf
      refine lv_icmp_ge (tgt := 22) hx hb dX3_rowsToCrown_8 (by decide) (fun cc => ?_) (fun cc => ?_)
      ·
        replace hf := ite_t ((z_le hr13 hr12).mp cc) hf
        clear cc
        exact hJ7 _ _ _ _ _ (lv_sub hl [1, 2] rfl) hP hD hS hf
      ·
        replace hf := ite_f (fun h9 => cc ((z_le hr13 hr12).mpr h9)) hf
        clear cc
        refine lv_aload_n hx hb dX3_rowsToCrown_11 rfl (lv_at hl 1 rfl) ?_
        refine lv_iconst (v := Int32.ofInt (0 : Int)) hx hb dX3_rowsToCrown_12 (by decide) ?_
        have hq := bd2_s hf
        clear hf
        obtain ⟨w15, w16, hcall, hf⟩ := hq
        refine gsV (ws' := [(a_p0, .inr (3, [.ref a_p0_kitchen, .ref a_p0_rows, .ref a_p0_later, .ref a_p0_finds])), (a_p0_kitchen, .inr (2, [.ref a_p0_kitchen_rules, .ref a_p0_kitchen_state, .ref a_p0_kitchen_places, .ref a_p0_kitchen_holders, .ref a_p0_kitchen_stirred])), (a_p0_kitchen_rules, .inr (6, [.int (Int32.ofInt i_p0_kitchen_rules_seats), .int (Int32.ofInt i_p0_kitchen_rules_stirs), .ref a_p0_kitchen_rules_need, .ref a_p0_kitchen_rules_kind, .ref a_p0_kitchen_rules_first, .ref a_p0_kitchen_rules_second, .ref a_p0_kitchen_rules_after])), (a_p0_kitchen_rules_after, .inl (G 1, 35, .inl (zA v_p0_kitchen_rules_after))), (a_p0_kitchen_state, .inr (8, [.ref a_p0_kitchen_state_pieces, .ref a_p0_kitchen_state_friends, .ref a_p0_kitchen_state_spoons, .ref a_p0_kitchen_state_eaten, .ref a_p0_kitchen_state_seen, .int (Int32.ofInt i_p0_kitchen_state_seenDays), .int (Int32.ofInt i_p0_kitchen_state_bone), .int (Int32.ofInt i_p0_kitchen_state_king), .int (Int32.ofInt i_p0_kitchen_state_days)])), (a_p0_kitchen_state_friends, .inl (G 1, 7, .inl (zA v_p0_kitchen_state_friends))), (a_p0_kitchen_places, .inl (G 1, 49, .inl (zA w1))), (a_p0_kitchen_holders, .inl (G 1, 49, .inl (zA w2))), (a_p0_rows, .inl (G 2, 49, .inr (.inl (zL w15)))), (a_p0_later, .inl (G 2, 49, .inr (.inl (zL w16))))]) (va_runV (As := [.int (Int32.ofInt (0 : Int))]) (rest := []) ⟨hx, hb, hml, hown, hts⟩ (c_X3_goOn (l := l) (D := D) (G := G) (sz := H.size) (a_p0 := a_p0) (a_p0_kitchen := a_p0_kitchen) (a_p0_rows := a_p0_rows) (a_p0_later := a_p0_later) (a_p0_finds := a_p0_finds) (a_p0_kitchen_rules := a_p0_kitchen_rules) (a_p0_kitchen_state := a_p0_kitchen_state) (a_p0_kitchen_places := a_p0_kitchen_places) (a_p0_kitchen_holders := a_p0_kitchen_holders) (a_p0_kitchen_stirred := a_p0_kitchen_stirred) (a_p0_kitchen_rules_need := a_p0_kitchen_rules_need) (a_p0_kitchen_rules_kind := a_p0_kitchen_rules_kind) (a_p0_kitchen_rules_first := a_p0_kitchen_rules_first) (a_p0_kitchen_rules_second := a_p0_kitchen_rules_second) (a_p0_kitchen_rules_after := a_p0_kitchen_rules_after) (i_p0_kitchen_rules_seats := i_p0_kitchen_rules_seats) (i_p0_kitchen_rules_stirs := i_p0_kitchen_rules_stirs) (v_p0_kitchen_rules_after := v_p0_kitchen_rules_after) (v_p0_kitchen_holders := w2) (v_p0_rows := w10) (v_p0_later := w11) (x1 := (0 : Int)) (o_v_p0_rows := w15) (o_v_p0_later := w16) (hf := hcall)) (cwV 1 hts gX3_rowsToCrown_X3_goOn rfl rfl rfl hdV_yX3_goOn_RX3 ⟨Nat.le_of_ble_eq_true rfl, Nat.le_of_ble_eq_true rfl⟩) (preG_V (ci := 3) (q := (RX3, TX3, 4)) (hP.sub [0, 1, 2, 3, 7, 8, 9] rfl) (hD.sub [0, 1, 2, 3, 7, 8, 9] rfl rfl) hK rfl rfl) rfl rfl hl.1 rfl (lv_room (Nat.le_of_ble_eq_true rfl)) dX3_rowsToCrown_13 ⟨Nat.le_of_ble_eq_true rfl, Nat.le_of_ble_eq_true rfl⟩) hP hD hS hA [0, 1, 2, 3, 7, 8, 9] rfl rfl rfl (fun H locs hP hD hS => ?_)
        clear hcall
        obtain ⟨z17, ez⟩ : ∃ y : Int, y = (z9 + (1 : Int)) := ⟨_, rfl⟩
        replace hf := bnd_s hf ez
        refine lv_iinc (v := Int32.ofInt z17) (lv' := [(3, .int (Int32.ofInt z17)), (0, .ref a_p0), (1, .int (Int32.ofInt x1)), (2, .int (Int32.ofInt x2))]) hx hb dX3_rowsToCrown_16 hl (k := 0) rfl (by rw [ez]; exact (Int32.ofInt_add _ _).symm) (by decide) rfl (fun ls hl => ?_)
        clear ez
        refine lv_goto (tgt := 6) hx hb dX3_rowsToCrown_19 (by decide) ?_
        exact ih6 _ _ _ _ _ _ (lv_sub hl [0, 1, 2, 3] rfl) hP hD hS hf
  exact hB12 _ _ _ _ _ _ _ (lv_sub hl [0, 1, 2, 3] rfl) hP hD hS hf

noncomputable def B_X3_rowsOfReign_6 (x1 : Int) (J7 : (Int → Int) → (Int → Int) → Option (Int × (Int → Int) × (Int → Int) × (Int → Int) × (Int → Int))) (i_p0_kitchen_rules_seats : Int) (i_p0_kitchen_rules_stirs : Int) (v_p0_kitchen_rules_after : (Int → Int)) (w2 : (Int → Int)) (again6 : Int → (Int → Int) → (Int → Int) → Option (Int × (Int → Int) × (Int → Int) × (Int → Int) × (Int → Int))) (z9 : Int) (w10 : (Int → Int)) (w11 : (Int → Int)) : Option (Int × (Int → Int) × (Int → Int) × (Int → Int) × (Int → Int)) := (ck (z_r32 z9) (ck (z_r32 x1) (if x1 ≤ z9 then (J7 w10 w11) else (bd2 (f_X3_goOn i_p0_kitchen_rules_seats i_p0_kitchen_rules_stirs v_p0_kitchen_rules_after w2 w10 w11 (1 : Int)) (fun (w15 : (Int → Int)) (w16 : (Int → Int)) => (bnd (z9 + (1 : Int)) (fun (z17 : Int) => (again6 z17 w15 w16))))))))
noncomputable def f_X3_rowsOfReign (i_p0_kitchen_rules_seats : Int) (i_p0_kitchen_rules_stirs : Int) (v_p0_kitchen_rules_after : (Int → Int)) (i_p0_kitchen_state_bone : Int) (i_p0_kitchen_state_king : Int) (v_p0_kitchen_state_friends : (Int → Int)) (v_p0_kitchen_places : (Int → Int)) (v_p0_kitchen_holders : (Int → Int)) (v_p0_rows : (Int → Int)) (v_p0_later : (Int → Int)) (x1 : Int) : Option (Int × (Int → Int) × (Int → Int) × (Int → Int) × (Int → Int)) := (bd3 (f_X3_begin i_p0_kitchen_rules_seats i_p0_kitchen_state_bone i_p0_kitchen_state_king v_p0_kitchen_state_friends v_p0_kitchen_places v_p0_kitchen_holders v_p0_rows) (fun (w1 : (Int → Int)) (w2 : (Int → Int)) (w3 : (Int → Int)) => (bnd (0 : Int) (fun (z4 : Int) => (jn (fun (w5 : (Int → Int)) (w6 : (Int → Int)) => (bd1 (f_X3_rowsWithKing i_p0_kitchen_rules_seats w5 i_p0_kitchen_state_king) (fun (z8 : Int) => (some (z8, w1, w2, w5, w6))))) (fun (J7 : (Int → Int) → (Int → Int) → Option (Int × (Int → Int) × (Int → Int) × (Int → Int) × (Int → Int))) => (lq3 (B_X3_rowsOfReign_6 x1 J7 i_p0_kitchen_rules_seats i_p0_kitchen_rules_stirs v_p0_kitchen_rules_after w2) 1000 z4 w3 v_p0_later)))))))
abbrev rm_X3_rowsOfReign : Room := { frames := 4, cells := 0, slots := 0, locals := 90 }
theorem inX3_rowsOfReign_X3 : ∀ w ∈ wsX30, w ∈ wsX3_rowsOfReign := by first | exact fun w h => List.mem_cons_of_mem _ (List.mem_append_left _ (List.mem_append_left _ (List.mem_append_left _ (List.mem_append_right _ h)))) | decide +kernel
theorem mwX3_rowsOfReign_1 : Cond.fieldLink RX3 21 "LadleKings$Luck" "kitchen" "LLadleKings$Kitchen;" ∈ wsX3_rowsOfReign := by first | exact List.mem_of_getElem? (i := 1) rfl | decide +kernel
theorem inX3_rowsOfReign_X2 : ∀ w ∈ wsX20, w ∈ wsX3_rowsOfReign := by first | exact fun w h => List.mem_cons_of_mem _ (List.mem_append_left _ (List.mem_append_left _ (List.mem_append_right _ h))) | decide +kernel
theorem mwX3_rowsOfReign_3 : Cond.fieldLink RX3 36 "LadleKings$Kitchen" "state" "LLadleKings$State;" ∈ wsX3_rowsOfReign := by first | exact List.mem_of_getElem? (i := 2) rfl | decide +kernel
theorem inX3_rowsOfReign_X8 : ∀ w ∈ wsX80, w ∈ wsX3_rowsOfReign := by first | exact fun w h => List.mem_cons_of_mem _ (List.mem_append_left _ (List.mem_append_right _ h)) | decide +kernel
theorem mwX3_rowsOfReign_5 : Cond.fieldLink RX3 42 "LadleKings$State" "king" "I" ∈ wsX3_rowsOfReign := by first | exact List.mem_of_getElem? (i := 3) rfl | decide +kernel
set_option maxHeartbeats 8000000 in
set_option maxRecDepth 100000 in
theorem c_X3_rowsOfReign (l : Launch) (D : va_G) (G : Nat → ClassId) (sz : Nat) (a_p0 : Nat) (a_p0_kitchen : Nat) (a_p0_rows : Nat) (a_p0_later : Nat) (a_p0_finds : Nat) (a_p0_kitchen_rules : Nat) (a_p0_kitchen_state : Nat) (a_p0_kitchen_places : Nat) (a_p0_kitchen_holders : Nat) (a_p0_kitchen_stirred : Nat) (a_p0_kitchen_rules_need : Nat) (a_p0_kitchen_rules_kind : Nat) (a_p0_kitchen_rules_first : Nat) (a_p0_kitchen_rules_second : Nat) (a_p0_kitchen_rules_after : Nat) (a_p0_kitchen_state_pieces : Nat) (a_p0_kitchen_state_friends : Nat) (a_p0_kitchen_state_spoons : Nat) (a_p0_kitchen_state_eaten : Nat) (a_p0_kitchen_state_seen : Nat) (i_p0_kitchen_rules_seats : Int) (i_p0_kitchen_rules_stirs : Int) (v_p0_kitchen_rules_after : (Int → Int)) (i_p0_kitchen_state_seenDays : Int) (i_p0_kitchen_state_bone : Int) (i_p0_kitchen_state_king : Int) (i_p0_kitchen_state_days : Int) (v_p0_kitchen_state_friends : (Int → Int)) (v_p0_kitchen_places : (Int → Int)) (v_p0_kitchen_holders : (Int → Int)) (v_p0_rows : (Int → Int)) (v_p0_later : (Int → Int)) (x1 : Int) (r : Int) (o_v_p0_kitchen_places : (Int → Int)) (o_v_p0_kitchen_holders : (Int → Int)) (o_v_p0_rows : (Int → Int)) (o_v_p0_later : (Int → Int)) (hf : f_X3_rowsOfReign i_p0_kitchen_rules_seats i_p0_kitchen_rules_stirs v_p0_kitchen_rules_after i_p0_kitchen_state_bone i_p0_kitchen_state_king v_p0_kitchen_state_friends v_p0_kitchen_places v_p0_kitchen_holders v_p0_rows v_p0_later x1 = some (r, o_v_p0_kitchen_places, o_v_p0_kitchen_holders, o_v_p0_rows, o_v_p0_later)) : Met l yX3_rowsOfReign wsX3_rowsOfReign rm_X3_rowsOfReign (pcG D G [.ref a_p0, .int (Int32.ofInt x1)] sz [(a_p0, .inr (3, [.ref a_p0_kitchen, .ref a_p0_rows, .ref a_p0_later, .ref a_p0_finds])), (a_p0_kitchen, .inr (2, [.ref a_p0_kitchen_rules, .ref a_p0_kitchen_state, .ref a_p0_kitchen_places, .ref a_p0_kitchen_holders, .ref a_p0_kitchen_stirred])), (a_p0_kitchen_rules, .inr (6, [.int (Int32.ofInt i_p0_kitchen_rules_seats), .int (Int32.ofInt i_p0_kitchen_rules_stirs), .ref a_p0_kitchen_rules_need, .ref a_p0_kitchen_rules_kind, .ref a_p0_kitchen_rules_first, .ref a_p0_kitchen_rules_second, .ref a_p0_kitchen_rules_after])), (a_p0_kitchen_rules_after, .inl (G 1, 35, .inl (zA v_p0_kitchen_rules_after))), (a_p0_kitchen_state, .inr (8, [.ref a_p0_kitchen_state_pieces, .ref a_p0_kitchen_state_friends, .ref a_p0_kitchen_state_spoons, .ref a_p0_kitchen_state_eaten, .ref a_p0_kitchen_state_seen, .int (Int32.ofInt i_p0_kitchen_state_seenDays), .int (Int32.ofInt i_p0_kitchen_state_bone), .int (Int32.ofInt i_p0_kitchen_state_king), .int (Int32.ofInt i_p0_kitchen_state_days)])), (a_p0_kitchen_state_friends, .inl (G 1, 7, .inl (zA v_p0_kitchen_state_friends))), (a_p0_kitchen_places, .inl (G 1, 49, .inl (zA v_p0_kitchen_places))), (a_p0_kitchen_holders, .inl (G 1, 49, .inl (zA v_p0_kitchen_holders))), (a_p0_rows, .inl (G 2, 49, .inr (.inl (zL v_p0_rows)))), (a_p0_later, .inl (G 2, 49, .inr (.inl (zL v_p0_later))))]) (qcL D G (Int64.ofInt r) [(a_p0, .inr (3, [.ref a_p0_kitchen, .ref a_p0_rows, .ref a_p0_later, .ref a_p0_finds])), (a_p0_kitchen, .inr (2, [.ref a_p0_kitchen_rules, .ref a_p0_kitchen_state, .ref a_p0_kitchen_places, .ref a_p0_kitchen_holders, .ref a_p0_kitchen_stirred])), (a_p0_kitchen_rules, .inr (6, [.int (Int32.ofInt i_p0_kitchen_rules_seats), .int (Int32.ofInt i_p0_kitchen_rules_stirs), .ref a_p0_kitchen_rules_need, .ref a_p0_kitchen_rules_kind, .ref a_p0_kitchen_rules_first, .ref a_p0_kitchen_rules_second, .ref a_p0_kitchen_rules_after])), (a_p0_kitchen_rules_after, .inl (G 1, 35, .inl (zA v_p0_kitchen_rules_after))), (a_p0_kitchen_state, .inr (8, [.ref a_p0_kitchen_state_pieces, .ref a_p0_kitchen_state_friends, .ref a_p0_kitchen_state_spoons, .ref a_p0_kitchen_state_eaten, .ref a_p0_kitchen_state_seen, .int (Int32.ofInt i_p0_kitchen_state_seenDays), .int (Int32.ofInt i_p0_kitchen_state_bone), .int (Int32.ofInt i_p0_kitchen_state_king), .int (Int32.ofInt i_p0_kitchen_state_days)])), (a_p0_kitchen_state_friends, .inl (G 1, 7, .inl (zA v_p0_kitchen_state_friends))), (a_p0_kitchen_places, .inl (G 1, 49, .inl (zA o_v_p0_kitchen_places))), (a_p0_kitchen_holders, .inl (G 1, 49, .inl (zA o_v_p0_kitchen_holders))), (a_p0_rows, .inl (G 2, 49, .inr (.inl (zL o_v_p0_rows)))), (a_p0_later, .inl (G 2, 49, .inr (.inl (zL o_v_p0_later))))] (va_A [(a_p0, .inr (3, [.ref a_p0_kitchen, .ref a_p0_rows, .ref a_p0_later, .ref a_p0_finds])), (a_p0_kitchen, .inr (2, [.ref a_p0_kitchen_rules, .ref a_p0_kitchen_state, .ref a_p0_kitchen_places, .ref a_p0_kitchen_holders, .ref a_p0_kitchen_stirred])), (a_p0_kitchen_rules, .inr (6, [.int (Int32.ofInt i_p0_kitchen_rules_seats), .int (Int32.ofInt i_p0_kitchen_rules_stirs), .ref a_p0_kitchen_rules_need, .ref a_p0_kitchen_rules_kind, .ref a_p0_kitchen_rules_first, .ref a_p0_kitchen_rules_second, .ref a_p0_kitchen_rules_after])), (a_p0_kitchen_rules_after, .inl (G 1, 35, .inl (zA v_p0_kitchen_rules_after))), (a_p0_kitchen_state, .inr (8, [.ref a_p0_kitchen_state_pieces, .ref a_p0_kitchen_state_friends, .ref a_p0_kitchen_state_spoons, .ref a_p0_kitchen_state_eaten, .ref a_p0_kitchen_state_seen, .int (Int32.ofInt i_p0_kitchen_state_seenDays), .int (Int32.ofInt i_p0_kitchen_state_bone), .int (Int32.ofInt i_p0_kitchen_state_king), .int (Int32.ofInt i_p0_kitchen_state_days)])), (a_p0_kitchen_state_friends, .inl (G 1, 7, .inl (zA v_p0_kitchen_state_friends))), (a_p0_kitchen_places, .inl (G 1, 49, .inl (zA v_p0_kitchen_places))), (a_p0_kitchen_holders, .inl (G 1, 49, .inl (zA v_p0_kitchen_holders))), (a_p0_rows, .inl (G 2, 49, .inr (.inl (zL v_p0_rows)))), (a_p0_later, .inl (G 2, 49, .inr (.inl (zL v_p0_later))))] sz)) 0 0 (va_A [(a_p0, .inr (3, [.ref a_p0_kitchen, .ref a_p0_rows, .ref a_p0_later, .ref a_p0_finds])), (a_p0_kitchen, .inr (2, [.ref a_p0_kitchen_rules, .ref a_p0_kitchen_state, .ref a_p0_kitchen_places, .ref a_p0_kitchen_holders, .ref a_p0_kitchen_stirred])), (a_p0_kitchen_rules, .inr (6, [.int (Int32.ofInt i_p0_kitchen_rules_seats), .int (Int32.ofInt i_p0_kitchen_rules_stirs), .ref a_p0_kitchen_rules_need, .ref a_p0_kitchen_rules_kind, .ref a_p0_kitchen_rules_first, .ref a_p0_kitchen_rules_second, .ref a_p0_kitchen_rules_after])), (a_p0_kitchen_rules_after, .inl (G 1, 35, .inl (zA v_p0_kitchen_rules_after))), (a_p0_kitchen_state, .inr (8, [.ref a_p0_kitchen_state_pieces, .ref a_p0_kitchen_state_friends, .ref a_p0_kitchen_state_spoons, .ref a_p0_kitchen_state_eaten, .ref a_p0_kitchen_state_seen, .int (Int32.ofInt i_p0_kitchen_state_seenDays), .int (Int32.ofInt i_p0_kitchen_state_bone), .int (Int32.ofInt i_p0_kitchen_state_king), .int (Int32.ofInt i_p0_kitchen_state_days)])), (a_p0_kitchen_state_friends, .inl (G 1, 7, .inl (zA v_p0_kitchen_state_friends))), (a_p0_kitchen_places, .inl (G 1, 49, .inl (zA v_p0_kitchen_places))), (a_p0_kitchen_holders, .inl (G 1, 49, .inl (zA v_p0_kitchen_holders))), (a_p0_rows, .inl (G 2, 49, .inr (.inl (zL v_p0_rows)))), (a_p0_later, .inl (G 2, 49, .inr (.inl (zL v_p0_later))))] sz) := by
  refine Met.ofW (cc := cX3_rowsOfReign) (maxL := 3) (ret := (some .long)) (by decide) rfl ?_
  intro p e s m args below meth c s₁ B hml hv
  obtain ⟨rfl, hsz, hP, hK, hD0⟩ := hv
  have hx := B.exec
  have hb := B.bytes
  have hr := B.returns
  have hts := atoms_spec (ws := wsX3_rowsOfReign) B.pre
  have hown : s.vm.findClass RX3 = some m.cls := findClass_of_methodNamed B.named
  have hlocks := B.notSynchronized
  subst hsz
  have hD := hD0.self (sz := s.heap.size)
  generalize hAe : va_A [(a_p0, .inr (3, [.ref a_p0_kitchen, .ref a_p0_rows, .ref a_p0_later, .ref a_p0_finds])), (a_p0_kitchen, .inr (2, [.ref a_p0_kitchen_rules, .ref a_p0_kitchen_state, .ref a_p0_kitchen_places, .ref a_p0_kitchen_holders, .ref a_p0_kitchen_stirred])), (a_p0_kitchen_rules, .inr (6, [.int (Int32.ofInt i_p0_kitchen_rules_seats), .int (Int32.ofInt i_p0_kitchen_rules_stirs), .ref a_p0_kitchen_rules_need, .ref a_p0_kitchen_rules_kind, .ref a_p0_kitchen_rules_first, .ref a_p0_kitchen_rules_second, .ref a_p0_kitchen_rules_after])), (a_p0_kitchen_rules_after, .inl (G 1, 35, .inl (zA v_p0_kitchen_rules_after))), (a_p0_kitchen_state, .inr (8, [.ref a_p0_kitchen_state_pieces, .ref a_p0_kitchen_state_friends, .ref a_p0_kitchen_state_spoons, .ref a_p0_kitchen_state_eaten, .ref a_p0_kitchen_state_seen, .int (Int32.ofInt i_p0_kitchen_state_seenDays), .int (Int32.ofInt i_p0_kitchen_state_bone), .int (Int32.ofInt i_p0_kitchen_state_king), .int (Int32.ofInt i_p0_kitchen_state_days)])), (a_p0_kitchen_state_friends, .inl (G 1, 7, .inl (zA v_p0_kitchen_state_friends))), (a_p0_kitchen_places, .inl (G 1, 49, .inl (zA v_p0_kitchen_places))), (a_p0_kitchen_holders, .inl (G 1, 49, .inl (zA v_p0_kitchen_holders))), (a_p0_rows, .inl (G 2, 49, .inr (.inl (zL v_p0_rows)))), (a_p0_later, .inl (G 2, 49, .inr (.inl (zL v_p0_later))))] s.heap.size = A at hD ⊢
  have hA : ∀ q : Nat, s.heap.size ≤ q → A q := fun q h => by rw [← hAe]; exact Or.inr h
  clear hAe hD0
  have hS : va_S A s.heap s.heap [] := va_S.rf
  have hl := lv_entry ([.ref a_p0, .int (Int32.ofInt x1)]) (n := 3) (Nat.le_of_ble_eq_true rfl)
  rw [lg_entry_eq]
  generalize (lg_sl ([.ref a_p0, .int (Int32.ofInt x1)]) ++ List.replicate (3 - (lg_sl ([.ref a_p0, .int (Int32.ofInt x1)])).length) Slot.unset).toArray = ls at hl ⊢
  have hl : lv_has ls 3 [(0, .ref a_p0), (1, .int (Int32.ofInt x1))] := hl
  refine W_nameQ (fun Q hQ => ?_)
  obtain ⟨H, hH⟩ : ∃ H, H = s.heap := ⟨_, rfl⟩
  replace hS : va_S A s.heap H [] := by rw [hH]; exact hS
  replace hP : va_P D vwCl [(a_p0, .inr (3, [.ref a_p0_kitchen, .ref a_p0_rows, .ref a_p0_later, .ref a_p0_finds])), (a_p0_kitchen, .inr (2, [.ref a_p0_kitchen_rules, .ref a_p0_kitchen_state, .ref a_p0_kitchen_places, .ref a_p0_kitchen_holders, .ref a_p0_kitchen_stirred])), (a_p0_kitchen_rules, .inr (6, [.int (Int32.ofInt i_p0_kitchen_rules_seats), .int (Int32.ofInt i_p0_kitchen_rules_stirs), .ref a_p0_kitchen_rules_need, .ref a_p0_kitchen_rules_kind, .ref a_p0_kitchen_rules_first, .ref a_p0_kitchen_rules_second, .ref a_p0_kitchen_rules_after])), (a_p0_kitchen_rules_after, .inl (G 1, 35, .inl (zA v_p0_kitchen_rules_after))), (a_p0_kitchen_state, .inr (8, [.ref a_p0_kitchen_state_pieces, .ref a_p0_kitchen_state_friends, .ref a_p0_kitchen_state_spoons, .ref a_p0_kitchen_state_eaten, .ref a_p0_kitchen_state_seen, .int (Int32.ofInt i_p0_kitchen_state_seenDays), .int (Int32.ofInt i_p0_kitchen_state_bone), .int (Int32.ofInt i_p0_kitchen_state_king), .int (Int32.ofInt i_p0_kitchen_state_days)])), (a_p0_kitchen_state_friends, .inl (G 1, 7, .inl (zA v_p0_kitchen_state_friends))), (a_p0_kitchen_places, .inl (G 1, 49, .inl (zA v_p0_kitchen_places))), (a_p0_kitchen_holders, .inl (G 1, 49, .inl (zA v_p0_kitchen_holders))), (a_p0_rows, .inl (G 2, 49, .inr (.inl (zL v_p0_rows)))), (a_p0_later, .inl (G 2, 49, .inr (.inl (zL v_p0_later))))] H := by rw [hH]; exact hP
  rw [← hH]
  clear hH
  unfold f_X3_rowsOfReign at hf
  refine lv_aload_n hx hb dX3_rowsOfReign_0 rfl (lv_at hl 0 rfl) ?_
  have hq := bd3_s hf
  clear hf
  obtain ⟨w1, w2, w3, hcall, hf⟩ := hq
  refine gsV (ws' := [(a_p0, .inr (3, [.ref a_p0_kitchen, .ref a_p0_rows, .ref a_p0_later, .ref a_p0_finds])), (a_p0_kitchen, .inr (2, [.ref a_p0_kitchen_rules, .ref a_p0_kitchen_state, .ref a_p0_kitchen_places, .ref a_p0_kitchen_holders, .ref a_p0_kitchen_stirred])), (a_p0_kitchen_rules, .inr (6, [.int (Int32.ofInt i_p0_kitchen_rules_seats), .int (Int32.ofInt i_p0_kitchen_rules_stirs), .ref a_p0_kitchen_rules_need, .ref a_p0_kitchen_rules_kind, .ref a_p0_kitchen_rules_first, .ref a_p0_kitchen_rules_second, .ref a_p0_kitchen_rules_after])), (a_p0_kitchen_rules_after, .inl (G 1, 35, .inl (zA v_p0_kitchen_rules_after))), (a_p0_kitchen_state, .inr (8, [.ref a_p0_kitchen_state_pieces, .ref a_p0_kitchen_state_friends, .ref a_p0_kitchen_state_spoons, .ref a_p0_kitchen_state_eaten, .ref a_p0_kitchen_state_seen, .int (Int32.ofInt i_p0_kitchen_state_seenDays), .int (Int32.ofInt i_p0_kitchen_state_bone), .int (Int32.ofInt i_p0_kitchen_state_king), .int (Int32.ofInt i_p0_kitchen_state_days)])), (a_p0_kitchen_state_friends, .inl (G 1, 7, .inl (zA v_p0_kitchen_state_friends))), (a_p0_kitchen_places, .inl (G 1, 49, .inl (zA w1))), (a_p0_kitchen_holders, .inl (G 1, 49, .inl (zA w2))), (a_p0_rows, .inl (G 2, 49, .inr (.inl (zL w3)))), (a_p0_later, .inl (G 2, 49, .inr (.inl (zL v_p0_later))))]) (va_runV (As := []) (rest := []) ⟨hx, hb, hml, hown, hts⟩ (c_X3_begin (l := l) (D := D) (G := G) (sz := H.size) (a_p0 := a_p0) (a_p0_kitchen := a_p0_kitchen) (a_p0_rows := a_p0_rows) (a_p0_later := a_p0_later) (a_p0_finds := a_p0_finds) (a_p0_kitchen_rules := a_p0_kitchen_rules) (a_p0_kitchen_state := a_p0_kitchen_state) (a_p0_kitchen_places := a_p0_kitchen_places) (a_p0_kitchen_holders := a_p0_kitchen_holders) (a_p0_kitchen_stirred := a_p0_kitchen_stirred) (a_p0_kitchen_rules_need := a_p0_kitchen_rules_need) (a_p0_kitchen_rules_kind := a_p0_kitchen_rules_kind) (a_p0_kitchen_rules_first := a_p0_kitchen_rules_first) (a_p0_kitchen_rules_second := a_p0_kitchen_rules_second) (a_p0_kitchen_rules_after := a_p0_kitchen_rules_after) (a_p0_kitchen_state_pieces := a_p0_kitchen_state_pieces) (a_p0_kitchen_state_friends := a_p0_kitchen_state_friends) (a_p0_kitchen_state_spoons := a_p0_kitchen_state_spoons) (a_p0_kitchen_state_eaten := a_p0_kitchen_state_eaten) (a_p0_kitchen_state_seen := a_p0_kitchen_state_seen) (i_p0_kitchen_rules_seats := i_p0_kitchen_rules_seats) (i_p0_kitchen_rules_stirs := i_p0_kitchen_rules_stirs) (i_p0_kitchen_state_seenDays := i_p0_kitchen_state_seenDays) (i_p0_kitchen_state_bone := i_p0_kitchen_state_bone) (i_p0_kitchen_state_king := i_p0_kitchen_state_king) (i_p0_kitchen_state_days := i_p0_kitchen_state_days) (v_p0_kitchen_state_friends := v_p0_kitchen_state_friends) (v_p0_kitchen_places := v_p0_kitchen_places) (v_p0_kitchen_holders := v_p0_kitchen_holders) (v_p0_rows := v_p0_rows) (o_v_p0_kitchen_places := w1) (o_v_p0_kitchen_holders := w2) (o_v_p0_rows := w3) (hf := hcall)) (cwV 0 hts gX3_rowsOfReign_X3_begin rfl rfl rfl hdV_yX3_begin_RX3 ⟨Nat.le_of_ble_eq_true rfl, Nat.le_of_ble_eq_true rfl⟩) (preG_V (ci := 3) (q := (RX3, TX3, 4)) (hP.sub [0, 1, 2, 4, 5, 6, 7, 8] rfl) (hD.sub [0, 1, 2, 4, 5, 6, 7, 8] rfl rfl) hK rfl rfl) rfl rfl hl.1 rfl (lv_room (Nat.le_of_ble_eq_true rfl)) dX3_rowsOfReign_1 ⟨Nat.le_of_ble_eq_true rfl, Nat.le_of_ble_eq_true rfl⟩) hP hD hS hA [0, 1, 2, 4, 5, 6, 7, 8] rfl rfl rfl (fun H locs hP hD hS => ?_)
  clear hcall
  refine lv_iconst (v := Int32.ofInt (0 : Int)) hx hb dX3_rowsOfReign_4 (by decide) ?_
  refine z_topi (fun z4 ez => ?_)
  replace hf := bnd_s hf ez
  clear ez
  refine lv_istore_n (lv' := [(2, .int (Int32.ofInt z4)), (0, .ref a_p0), (1, .int (Int32.ofInt x1))]) hx hb dX3_rowsOfReign_5 rfl hl (by decide) rfl (fun ls hl => ?_)
  have hq := jn_i hf
  clear hf
  obtain ⟨J7, eJ7, hf⟩ := hq
  have hJ7 : ∀ (w5 : (Int → Int)) (w6 : (Int → Int)) (ls : Array Slot) (H : Heap) (locs : List Loc), lv_has ls 3 [(0, .ref a_p0)] → va_P D vwCl [(a_p0, .inr (3, [.ref a_p0_kitchen, .ref a_p0_rows, .ref a_p0_later, .ref a_p0_finds])), (a_p0_kitchen, .inr (2, [.ref a_p0_kitchen_rules, .ref a_p0_kitchen_state, .ref a_p0_kitchen_places, .ref a_p0_kitchen_holders, .ref a_p0_kitchen_stirred])), (a_p0_kitchen_rules, .inr (6, [.int (Int32.ofInt i_p0_kitchen_rules_seats), .int (Int32.ofInt i_p0_kitchen_rules_stirs), .ref a_p0_kitchen_rules_need, .ref a_p0_kitchen_rules_kind, .ref a_p0_kitchen_rules_first, .ref a_p0_kitchen_rules_second, .ref a_p0_kitchen_rules_after])), (a_p0_kitchen_rules_after, .inl (G 1, 35, .inl (zA v_p0_kitchen_rules_after))), (a_p0_kitchen_state, .inr (8, [.ref a_p0_kitchen_state_pieces, .ref a_p0_kitchen_state_friends, .ref a_p0_kitchen_state_spoons, .ref a_p0_kitchen_state_eaten, .ref a_p0_kitchen_state_seen, .int (Int32.ofInt i_p0_kitchen_state_seenDays), .int (Int32.ofInt i_p0_kitchen_state_bone), .int (Int32.ofInt i_p0_kitchen_state_king), .int (Int32.ofInt i_p0_kitchen_state_days)])), (a_p0_kitchen_state_friends, .inl (G 1, 7, .inl (zA v_p0_kitchen_state_friends))), (a_p0_kitchen_places, .inl (G 1, 49, .inl (zA w1))), (a_p0_kitchen_holders, .inl (G 1, 49, .inl (zA w2))), (a_p0_rows, .inl (G 2, 49, .inr (.inl (zL w5)))), (a_p0_later, .inl (G 2, 49, .inr (.inl (zL w6))))] H → va_D A [(a_p0, .inr (3, [.ref a_p0_kitchen, .ref a_p0_rows, .ref a_p0_later, .ref a_p0_finds])), (a_p0_kitchen, .inr (2, [.ref a_p0_kitchen_rules, .ref a_p0_kitchen_state, .ref a_p0_kitchen_places, .ref a_p0_kitchen_holders, .ref a_p0_kitchen_stirred])), (a_p0_kitchen_rules, .inr (6, [.int (Int32.ofInt i_p0_kitchen_rules_seats), .int (Int32.ofInt i_p0_kitchen_rules_stirs), .ref a_p0_kitchen_rules_need, .ref a_p0_kitchen_rules_kind, .ref a_p0_kitchen_rules_first, .ref a_p0_kitchen_rules_second, .ref a_p0_kitchen_rules_after])), (a_p0_kitchen_rules_after, .inl (G 1, 35, .inl (zA v_p0_kitchen_rules_after))), (a_p0_kitchen_state, .inr (8, [.ref a_p0_kitchen_state_pieces, .ref a_p0_kitchen_state_friends, .ref a_p0_kitchen_state_spoons, .ref a_p0_kitchen_state_eaten, .ref a_p0_kitchen_state_seen, .int (Int32.ofInt i_p0_kitchen_state_seenDays), .int (Int32.ofInt i_p0_kitchen_state_bone), .int (Int32.ofInt i_p0_kitchen_state_king), .int (Int32.ofInt i_p0_kitchen_state_days)])), (a_p0_kitchen_state_friends, .inl (G 1, 7, .inl (zA v_p0_kitchen_state_friends))), (a_p0_kitchen_places, .inl (G 1, 49, .inl (zA w1))), (a_p0_kitchen_holders, .inl (G 1, 49, .inl (zA w2))), (a_p0_rows, .inl (G 2, 49, .inr (.inl (zL w5)))), (a_p0_later, .inl (G 2, 49, .inr (.inl (zL w6))))] → va_S A s.heap H locs → J7 w5 w6 = some (r, o_v_p0_kitchen_places, o_v_p0_kitchen_holders, o_v_p0_rows, o_v_p0_later) → W p l e rm_X3_rowsOfReign s m ([.ref a_p0, .int (Int32.ofInt x1)] : List Value).toArray below meth c H locs 0 0 Q (F0 m 22 ls []) := by
    clear hf hl hP hD hS
    intro w5 w6 ls H locs hl hP hD hS hf
    replace hf := jn2_s eJ7 hf
    refine lv_aload_n hx hb dX3_rowsOfReign_22 rfl (lv_at hl 0 rfl) ?_
    refine lv_aload_n hx hb dX3_rowsOfReign_23 rfl (lv_at hl 0 rfl) ?_
    refine va_get (D := D) (ci := 3) (v := .ref a_p0_kitchen) (C := RX3) (T := TX3) (N := 4) hx hb hts inX3_rowsOfReign_X3 hown hK hP 0 rfl rfl 0 (by decide) (hts _ mwX3_rowsOfReign_1) (fun _ h9 => h9) rfl dX3_rowsOfReign_24 ?_
    refine va_get (D := D) (ci := 2) (v := .ref a_p0_kitchen_state) (C := RX2) (T := TX2) (N := 5) hx hb hts inX3_rowsOfReign_X2 hown hK hP 1 rfl rfl 1 (by decide) (hts _ mwX3_rowsOfReign_3) (fun _ h9 => h9) rfl dX3_rowsOfReign_27 ?_
    refine va_get (D := D) (ci := 8) (v := .int (Int32.ofInt i_p0_kitchen_state_king)) (C := RX8) (T := TX8) (N := 9) hx hb hts inX3_rowsOfReign_X8 hown hK hP 4 rfl rfl 7 (by decide) (hts _ mwX3_rowsOfReign_5) (fun _ h9 => h9) rfl dX3_rowsOfReign_30 ?_
    have hq := bd1_s hf
    clear hf
    obtain ⟨z8, hcall, hf⟩ := hq
    refine gnL (va_runV (As := [.int (Int32.ofInt i_p0_kitchen_state_king)]) (rest := []) ⟨hx, hb, hml, hown, hts⟩ (c_X3_rowsWithKing (l := l) (D := D) (G := G) (sz := H.size) (a_p0 := a_p0) (a_p0_kitchen := a_p0_kitchen) (a_p0_rows := a_p0_rows) (a_p0_later := a_p0_later) (a_p0_finds := a_p0_finds) (a_p0_kitchen_rules := a_p0_kitchen_rules) (a_p0_kitchen_state := a_p0_kitchen_state) (a_p0_kitchen_places := a_p0_kitchen_places) (a_p0_kitchen_holders := a_p0_kitchen_holders) (a_p0_kitchen_stirred := a_p0_kitchen_stirred) (a_p0_kitchen_rules_need := a_p0_kitchen_rules_need) (a_p0_kitchen_rules_kind := a_p0_kitchen_rules_kind) (a_p0_kitchen_rules_first := a_p0_kitchen_rules_first) (a_p0_kitchen_rules_second := a_p0_kitchen_rules_second) (a_p0_kitchen_rules_after := a_p0_kitchen_rules_after) (i_p0_kitchen_rules_seats := i_p0_kitchen_rules_seats) (i_p0_kitchen_rules_stirs := i_p0_kitchen_rules_stirs) (v_p0_rows := w5) (x1 := i_p0_kitchen_state_king) (r := z8) (hf := hcall)) (cwV 1 hts gX3_rowsOfReign_X3_rowsWithKing rfl rfl rfl hdV_yX3_rowsWithKing_RX3 ⟨Nat.le_of_ble_eq_true rfl, Nat.le_of_ble_eq_true rfl⟩) (preG_V (ci := 3) (q := (RX3, TX3, 4)) (hP.sub [0, 1, 2, 8] rfl) (hD.sub [0, 1, 2, 8] rfl rfl) hK rfl rfl) rfl rfl hl.1 rfl (lv_room (Nat.le_of_ble_eq_true rfl)) dX3_rowsOfReign_33 ⟨Nat.le_of_ble_eq_true rfl, Nat.le_of_ble_eq_true rfl⟩) hP hD hS hA [0, 1, 2, 8] rfl (fun H locs hP hD hS => ?_)
    clear hcall
    obtain ⟨rfl, rfl, rfl, rfl, rfl⟩ := ou5 hf
    rw [hQ]
    exact W.lret hx hb hr (fun t ht hW => ⟨⟨_, (), rfl, rfl, by rw [ht]; exact hP, va_K.moved hW.alike hK, hD⟩, hS.F ht⟩) hS.2.2 dX3_rowsOfReign_36
  have hq := lq3_i hf
  clear hf
  obtain ⟨B12, eB12, NB12, hf⟩ := hq
  have hB12 : ∀ (n : Nat) (z9 : Int) (w10 : (Int → Int)) (w11 : (Int → Int)) (ls : Array Slot) (H : Heap) (locs : List Loc), lv_has ls 3 [(2, .int (Int32.ofInt z9)), (0, .ref a_p0), (1, .int (Int32.ofInt x1))] → va_P D vwCl [(a_p0, .inr (3, [.ref a_p0_kitchen, .ref a_p0_rows, .ref a_p0_later, .ref a_p0_finds])), (a_p0_kitchen, .inr (2, [.ref a_p0_kitchen_rules, .ref a_p0_kitchen_state, .ref a_p0_kitchen_places, .ref a_p0_kitchen_holders, .ref a_p0_kitchen_stirred])), (a_p0_kitchen_rules, .inr (6, [.int (Int32.ofInt i_p0_kitchen_rules_seats), .int (Int32.ofInt i_p0_kitchen_rules_stirs), .ref a_p0_kitchen_rules_need, .ref a_p0_kitchen_rules_kind, .ref a_p0_kitchen_rules_first, .ref a_p0_kitchen_rules_second, .ref a_p0_kitchen_rules_after])), (a_p0_kitchen_rules_after, .inl (G 1, 35, .inl (zA v_p0_kitchen_rules_after))), (a_p0_kitchen_state, .inr (8, [.ref a_p0_kitchen_state_pieces, .ref a_p0_kitchen_state_friends, .ref a_p0_kitchen_state_spoons, .ref a_p0_kitchen_state_eaten, .ref a_p0_kitchen_state_seen, .int (Int32.ofInt i_p0_kitchen_state_seenDays), .int (Int32.ofInt i_p0_kitchen_state_bone), .int (Int32.ofInt i_p0_kitchen_state_king), .int (Int32.ofInt i_p0_kitchen_state_days)])), (a_p0_kitchen_state_friends, .inl (G 1, 7, .inl (zA v_p0_kitchen_state_friends))), (a_p0_kitchen_places, .inl (G 1, 49, .inl (zA w1))), (a_p0_kitchen_holders, .inl (G 1, 49, .inl (zA w2))), (a_p0_rows, .inl (G 2, 49, .inr (.inl (zL w10)))), (a_p0_later, .inl (G 2, 49, .inr (.inl (zL w11))))] H → va_D A [(a_p0, .inr (3, [.ref a_p0_kitchen, .ref a_p0_rows, .ref a_p0_later, .ref a_p0_finds])), (a_p0_kitchen, .inr (2, [.ref a_p0_kitchen_rules, .ref a_p0_kitchen_state, .ref a_p0_kitchen_places, .ref a_p0_kitchen_holders, .ref a_p0_kitchen_stirred])), (a_p0_kitchen_rules, .inr (6, [.int (Int32.ofInt i_p0_kitchen_rules_seats), .int (Int32.ofInt i_p0_kitchen_rules_stirs), .ref a_p0_kitchen_rules_need, .ref a_p0_kitchen_rules_kind, .ref a_p0_kitchen_rules_first, .ref a_p0_kitchen_rules_second, .ref a_p0_kitchen_rules_after])), (a_p0_kitchen_rules_after, .inl (G 1, 35, .inl (zA v_p0_kitchen_rules_after))), (a_p0_kitchen_state, .inr (8, [.ref a_p0_kitchen_state_pieces, .ref a_p0_kitchen_state_friends, .ref a_p0_kitchen_state_spoons, .ref a_p0_kitchen_state_eaten, .ref a_p0_kitchen_state_seen, .int (Int32.ofInt i_p0_kitchen_state_seenDays), .int (Int32.ofInt i_p0_kitchen_state_bone), .int (Int32.ofInt i_p0_kitchen_state_king), .int (Int32.ofInt i_p0_kitchen_state_days)])), (a_p0_kitchen_state_friends, .inl (G 1, 7, .inl (zA v_p0_kitchen_state_friends))), (a_p0_kitchen_places, .inl (G 1, 49, .inl (zA w1))), (a_p0_kitchen_holders, .inl (G 1, 49, .inl (zA w2))), (a_p0_rows, .inl (G 2, 49, .inr (.inl (zL w10)))), (a_p0_later, .inl (G 2, 49, .inr (.inl (zL w11))))] → va_S A s.heap H locs → lq3 B12 n z9 w10 w11 = some (r, o_v_p0_kitchen_places, o_v_p0_kitchen_holders, o_v_p0_rows, o_v_p0_later) → W p l e rm_X3_rowsOfReign s m ([.ref a_p0, .int (Int32.ofInt x1)] : List Value).toArray below meth c H locs 0 0 Q (F0 m 6 ls []) := by
    clear hf hl hP hD hS
    intro n
    induction n with
    | zero =>
      intro z9 w10 w11 ls H locs hl hP hD hS hf
      exact (lq3_0 hf).elim
    | succ n ih6 =>
      intro z9 w10 w11 ls H locs hl hP hD hS hf
      replace hf := lq3_s eB12 hf
      unfold B_X3_rowsOfReign_6 at hf
      refine lv_iload_n hx hb dX3_rowsOfReign_6 rfl (lv_at hl 0 rfl) ?_
      refine lv_iload_n hx hb dX3_rowsOfReign_7 rfl (lv_at hl 2 rfl) ?_
      have hr12 := ck_c hf
      replace hf := ck_r hf
      have hr13 := ck_c hf
      replace hf := ck_r hf
      refine lv_icmp_ge (tgt := 22) hx hb dX3_rowsOfReign_8 (by decide) (fun cc => ?_) (fun cc => ?_)
      ·
        replace hf := ite_t ((z_le hr13 hr12).mp cc) hf
        clear cc
        exact hJ7 _ _ _ _ _ (lv_sub hl [1] rfl) hP hD hS hf
      ·
        replace hf := ite_f (fun h9 => cc ((z_le hr13 hr12).mpr h9)) hf
        clear cc
        refine lv_aload_n hx hb dX3_rowsOfReign_11 rfl (lv_at hl 1 rfl) ?_
        refine lv_iconst (v := Int32.ofInt (1 : Int)) hx hb dX3_rowsOfReign_12 (by decide) ?_
        have hq := bd2_s hf
        clear hf
        obtain ⟨w15, w16, hcall, hf⟩ := hq
        refine gsV (ws' := [(a_p0, .inr (3, [.ref a_p0_kitchen, .ref a_p0_rows, .ref a_p0_later, .ref a_p0_finds])), (a_p0_kitchen, .inr (2, [.ref a_p0_kitchen_rules, .ref a_p0_kitchen_state, .ref a_p0_kitchen_places, .ref a_p0_kitchen_holders, .ref a_p0_kitchen_stirred])), (a_p0_kitchen_rules, .inr (6, [.int (Int32.ofInt i_p0_kitchen_rules_seats), .int (Int32.ofInt i_p0_kitchen_rules_stirs), .ref a_p0_kitchen_rules_need, .ref a_p0_kitchen_rules_kind, .ref a_p0_kitchen_rules_first, .ref a_p0_kitchen_rules_second, .ref a_p0_kitchen_rules_after])), (a_p0_kitchen_rules_after, .inl (G 1, 35, .inl (zA v_p0_kitchen_rules_after))), (a_p0_kitchen_state, .inr (8, [.ref a_p0_kitchen_state_pieces, .ref a_p0_kitchen_state_friends, .ref a_p0_kitchen_state_spoons, .ref a_p0_kitchen_state_eaten, .ref a_p0_kitchen_state_seen, .int (Int32.ofInt i_p0_kitchen_state_seenDays), .int (Int32.ofInt i_p0_kitchen_state_bone), .int (Int32.ofInt i_p0_kitchen_state_king), .int (Int32.ofInt i_p0_kitchen_state_days)])), (a_p0_kitchen_state_friends, .inl (G 1, 7, .inl (zA v_p0_kitchen_state_friends))), (a_p0_kitchen_places, .inl (G 1, 49, .inl (zA w1))), (a_p0_kitchen_holders, .inl (G 1, 49, .inl (zA w2))), (a_p0_rows, .inl (G 2, 49, .inr (.inl (zL w15)))), (a_p0_later, .inl (G 2, 49, .inr (.inl (zL w16))))]) (va_runV (As := [.int (Int32.ofInt (1 : Int))]) (rest := []) ⟨hx, hb, hml, hown, hts⟩ (c_X3_goOn (l := l) (D := D) (G := G) (sz := H.size) (a_p0 := a_p0) (a_p0_kitchen := a_p0_kitchen) (a_p0_rows := a_p0_rows) (a_p0_later := a_p0_later) (a_p0_finds := a_p0_finds) (a_p0_kitchen_rules := a_p0_kitchen_rules) (a_p0_kitchen_state := a_p0_kitchen_state) (a_p0_kitchen_places := a_p0_kitchen_places) (a_p0_kitchen_holders := a_p0_kitchen_holders) (a_p0_kitchen_stirred := a_p0_kitchen_stirred) (a_p0_kitchen_rules_need := a_p0_kitchen_rules_need) (a_p0_kitchen_rules_kind := a_p0_kitchen_rules_kind) (a_p0_kitchen_rules_first := a_p0_kitchen_rules_first) (a_p0_kitchen_rules_second := a_p0_kitchen_rules_second) (a_p0_kitchen_rules_after := a_p0_kitchen_rules_after) (i_p0_kitchen_rules_seats := i_p0_kitchen_rules_seats) (i_p0_kitchen_rules_stirs := i_p0_kitchen_rules_stirs) (v_p0_kitchen_rules_after := v_p0_kitchen_rules_after) (v_p0_kitchen_holders := w2) (v_p0_rows := w10) (v_p0_later := w11) (x1 := (1 : Int)) (o_v_p0_rows := w15) (o_v_p0_later := w16) (hf := hcall)) (cwV 1 hts gX3_rowsOfReign_X3_goOn rfl rfl rfl hdV_yX3_goOn_RX3 ⟨Nat.le_of_ble_eq_true rfl, Nat.le_of_ble_eq_true rfl⟩) (preG_V (ci := 3) (q := (RX3, TX3, 4)) (hP.sub [0, 1, 2, 3, 7, 8, 9] rfl) (hD.sub [0, 1, 2, 3, 7, 8, 9] rfl rfl) hK rfl rfl) rfl rfl hl.1 rfl (lv_room (Nat.le_of_ble_eq_true rfl)) dX3_rowsOfReign_13 ⟨Nat.le_of_ble_eq_true rfl, Nat.le_of_ble_eq_true rfl⟩) hP hD hS hA [0, 1, 2, 3, 7, 8, 9] rfl rfl rfl (fun H locs hP hD hS => ?_)
        clear hcall
        obtain ⟨z17, ez⟩ : ∃ y : Int, y = (z9 + (1 : Int)) := ⟨_, rfl⟩
        replace hf := bnd_s hf ez
        refine lv_iinc (v := Int32.ofInt z17) (lv' := [(2, .int (Int32.ofInt z17)), (0, .ref a_p0), (1, .int (Int32.ofInt x1))]) hx hb dX3_rowsOfReign_16 hl (k := 0) rfl (by rw [ez]; exact (Int32.ofInt_add _ _).symm) (by decide) rfl (fun ls hl => ?_)
        clear ez
        refine lv_goto (tgt := 6) hx hb dX3_rowsOfReign_19 (by decide) ?_
        exact ih6 _ _ _ _ _ _ (lv_sub hl [0, 1, 2] rfl) hP hD hS hf
  exact hB12 _ _ _ _ _ _ _ (lv_sub hl [0, 1, 2] rfl) hP hD hS hf

noncomputable def B_X3_triesWithFinds_107 (x2 : Int) (w4 : (Int → Int)) (again107 : Int → Int → Option (Int × (Int → Int))) (z8 : Int) (z9 : Int) : Option (Int × (Int → Int)) := (ck (z_r32 z8) (ck (z_r32 x2) (if x2 < z8 then (some (z9, w4)) else (ck (z_ix z8 13) (bnd (z9 + (w4 z8)) (fun (z13 : Int) => (bnd (z8 + (1 : Int)) (fun (z14 : Int) => (again107 z14 z13)))))))))
noncomputable def B_X3_triesWithFinds_25 (J22 : (Int → Int) → Option (Int × (Int → Int))) (i_p0_kitchen_rules_seats : Int) (again25 : Int → (Int → Int) → Option (Int × (Int → Int))) (z26 : Int) (w27 : (Int → Int)) : Option (Int × (Int → Int)) := (ck (z_r32 z26) (if z26 ≤ (0 : Int) then (J22 w27) else (ck (z_ix z26 13) (ck (z_r32 (i_p0_kitchen_rules_seats - (1 : Int))) (ck (z_ix (z26 - (1 : Int)) 13) (ck (z_ix z26 13) (bnd (z_up w27 z26 (((w27 z26) * (i_p0_kitchen_rules_seats - (1 : Int))) + (w27 (z26 - (1 : Int))))) (fun (w31 : (Int → Int)) => (bnd (z26 + (-1 : Int)) (fun (z32 : Int) => (again25 z32 w31)))))))))))
noncomputable def B_X3_triesWithFinds_17 (x2 : Int) (J5 : (Int → Int) → Option (Int × (Int → Int))) (i_p0_kitchen_rules_seats : Int) (again17 : Int → (Int → Int) → Option (Int × (Int → Int))) (z15 : Int) (w16 : (Int → Int)) : Option (Int × (Int → Int)) := (ck (z_r32 z15) (ck (z_r32 x2) (if x2 < z15 then (J5 w16) else (bnd z15 (fun (z20 : Int) => (jn (fun (w21 : (Int → Int)) => (ck (z_ix (0 : Int) 13) (ck (z_r32 (i_p0_kitchen_rules_seats - (1 : Int))) (ck (z_ix (0 : Int) 13) (bnd (z_up w21 (0 : Int) ((w21 (0 : Int)) * (i_p0_kitchen_rules_seats - (1 : Int)))) (fun (w24 : (Int → Int)) => (bnd (z15 + (1 : Int)) (fun (z25 : Int) => (again17 z25 w24))))))))) (fun (J22 : (Int → Int) → Option (Int × (Int → Int))) => (lq2 (B_X3_triesWithFinds_25 J22 i_p0_kitchen_rules_seats) 1000 z20 w16))))))))
noncomputable def f_X3_triesWithFinds (i_p0_kitchen_rules_seats : Int) (v_p0_finds : (Int → Int)) (x1 : Int) (x2 : Int) : Option (Int × (Int → Int)) := (bd1 (f_J7_fill_d0a16 13 v_p0_finds (0 : Int)) (fun (w1 : (Int → Int)) => (ck (z_ix (0 : Int) 13) (bnd (z_up w1 (0 : Int) (1 : Int)) (fun (w2 : (Int → Int)) => (bnd (1 : Int) (fun (z3 : Int) => (jn (fun (w4 : (Int → Int)) => (bnd (0 : Int) (fun (z6 : Int) => (bnd x1 (fun (z7 : Int) => (lq2 (B_X3_triesWithFinds_107 x2 w4) 1000 z7 z6)))))) (fun (J5 : (Int → Int) → Option (Int × (Int → Int))) => (lq2 (B_X3_triesWithFinds_17 x2 J5 i_p0_kitchen_rules_seats) 1000 z3 w2))))))))))
abbrev rm_X3_triesWithFinds : Room := { frames := 1, cells := 0, slots := 0, locals := 24 }
theorem inX3_triesWithFinds_X3 : ∀ w ∈ wsX30, w ∈ wsX3_triesWithFinds := by first | exact fun w h => List.mem_cons_of_mem _ (List.mem_append_left _ (List.mem_append_left _ (List.mem_append_right _ h))) | decide +kernel
theorem mwX3_triesWithFinds_1 : Cond.fieldLink RX3 18 "LadleKings$Luck" "finds" "[J" ∈ wsX3_triesWithFinds := by first | exact List.mem_of_getElem? (i := 1) rfl | decide +kernel
theorem mwX3_triesWithFinds_2 : Cond.fieldLink RX3 21 "LadleKings$Luck" "kitchen" "LLadleKings$Kitchen;" ∈ wsX3_triesWithFinds := by first | exact List.mem_of_getElem? (i := 2) rfl | decide +kernel
theorem inX3_triesWithFinds_X2 : ∀ w ∈ wsX20, w ∈ wsX3_triesWithFinds := by first | exact fun w h => List.mem_cons_of_mem _ (List.mem_append_left _ (List.mem_append_right _ h)) | decide +kernel
theorem mwX3_triesWithFinds_4 : Cond.fieldLink RX3 60 "LadleKings$Kitchen" "rules" "LLadleKings$Rules;" ∈ wsX3_triesWithFinds := by first | exact List.mem_of_getElem? (i := 3) rfl | decide +kernel
theorem inX3_triesWithFinds_X6 : ∀ w ∈ wsX60, w ∈ wsX3_triesWithFinds := by first | exact fun w h => List.mem_cons_of_mem _ (List.mem_append_right _ h) | decide +kernel
theorem mwX3_triesWithFinds_6 : Cond.fieldLink RX3 64 "LadleKings$Rules" "seats" "I" ∈ wsX3_triesWithFinds := by first | exact List.mem_of_getElem? (i := 4) rfl | decide +kernel
set_option maxHeartbeats 8000000 in
set_option maxRecDepth 100000 in
theorem c_X3_triesWithFinds (l : Launch) (D : va_G) (G : Nat → ClassId) (sz : Nat) (a_p0 : Nat) (a_p0_kitchen : Nat) (a_p0_rows : Nat) (a_p0_later : Nat) (a_p0_finds : Nat) (a_p0_kitchen_rules : Nat) (a_p0_kitchen_state : Nat) (a_p0_kitchen_places : Nat) (a_p0_kitchen_holders : Nat) (a_p0_kitchen_stirred : Nat) (a_p0_kitchen_rules_need : Nat) (a_p0_kitchen_rules_kind : Nat) (a_p0_kitchen_rules_first : Nat) (a_p0_kitchen_rules_second : Nat) (a_p0_kitchen_rules_after : Nat) (i_p0_kitchen_rules_seats : Int) (i_p0_kitchen_rules_stirs : Int) (v_p0_finds : (Int → Int)) (x1 : Int) (x2 : Int) (r : Int) (o_v_p0_finds : (Int → Int)) (hf : f_X3_triesWithFinds i_p0_kitchen_rules_seats v_p0_finds x1 x2 = some (r, o_v_p0_finds)) : Met l yX3_triesWithFinds wsX3_triesWithFinds rm_X3_triesWithFinds (pcG D G [.ref a_p0, .int (Int32.ofInt x1), .int (Int32.ofInt x2)] sz [(a_p0, .inr (3, [.ref a_p0_kitchen, .ref a_p0_rows, .ref a_p0_later, .ref a_p0_finds])), (a_p0_kitchen, .inr (2, [.ref a_p0_kitchen_rules, .ref a_p0_kitchen_state, .ref a_p0_kitchen_places, .ref a_p0_kitchen_holders, .ref a_p0_kitchen_stirred])), (a_p0_kitchen_rules, .inr (6, [.int (Int32.ofInt i_p0_kitchen_rules_seats), .int (Int32.ofInt i_p0_kitchen_rules_stirs), .ref a_p0_kitchen_rules_need, .ref a_p0_kitchen_rules_kind, .ref a_p0_kitchen_rules_first, .ref a_p0_kitchen_rules_second, .ref a_p0_kitchen_rules_after])), (a_p0_finds, .inl (G 2, 13, .inr (.inl (zL v_p0_finds))))]) (qcL D G (Int64.ofInt r) [(a_p0, .inr (3, [.ref a_p0_kitchen, .ref a_p0_rows, .ref a_p0_later, .ref a_p0_finds])), (a_p0_kitchen, .inr (2, [.ref a_p0_kitchen_rules, .ref a_p0_kitchen_state, .ref a_p0_kitchen_places, .ref a_p0_kitchen_holders, .ref a_p0_kitchen_stirred])), (a_p0_kitchen_rules, .inr (6, [.int (Int32.ofInt i_p0_kitchen_rules_seats), .int (Int32.ofInt i_p0_kitchen_rules_stirs), .ref a_p0_kitchen_rules_need, .ref a_p0_kitchen_rules_kind, .ref a_p0_kitchen_rules_first, .ref a_p0_kitchen_rules_second, .ref a_p0_kitchen_rules_after])), (a_p0_finds, .inl (G 2, 13, .inr (.inl (zL o_v_p0_finds))))] (va_A [(a_p0, .inr (3, [.ref a_p0_kitchen, .ref a_p0_rows, .ref a_p0_later, .ref a_p0_finds])), (a_p0_kitchen, .inr (2, [.ref a_p0_kitchen_rules, .ref a_p0_kitchen_state, .ref a_p0_kitchen_places, .ref a_p0_kitchen_holders, .ref a_p0_kitchen_stirred])), (a_p0_kitchen_rules, .inr (6, [.int (Int32.ofInt i_p0_kitchen_rules_seats), .int (Int32.ofInt i_p0_kitchen_rules_stirs), .ref a_p0_kitchen_rules_need, .ref a_p0_kitchen_rules_kind, .ref a_p0_kitchen_rules_first, .ref a_p0_kitchen_rules_second, .ref a_p0_kitchen_rules_after])), (a_p0_finds, .inl (G 2, 13, .inr (.inl (zL v_p0_finds))))] sz)) 0 0 (va_A [(a_p0, .inr (3, [.ref a_p0_kitchen, .ref a_p0_rows, .ref a_p0_later, .ref a_p0_finds])), (a_p0_kitchen, .inr (2, [.ref a_p0_kitchen_rules, .ref a_p0_kitchen_state, .ref a_p0_kitchen_places, .ref a_p0_kitchen_holders, .ref a_p0_kitchen_stirred])), (a_p0_kitchen_rules, .inr (6, [.int (Int32.ofInt i_p0_kitchen_rules_seats), .int (Int32.ofInt i_p0_kitchen_rules_stirs), .ref a_p0_kitchen_rules_need, .ref a_p0_kitchen_rules_kind, .ref a_p0_kitchen_rules_first, .ref a_p0_kitchen_rules_second, .ref a_p0_kitchen_rules_after])), (a_p0_finds, .inl (G 2, 13, .inr (.inl (zL v_p0_finds))))] sz) := by
  refine Met.ofW (cc := cX3_triesWithFinds) (maxL := 6) (ret := (some .long)) (by decide) rfl ?_
  intro p e s m args below meth c s₁ B hml hv
  obtain ⟨rfl, hsz, hP, hK, hD0⟩ := hv
  have hx := B.exec
  have hb := B.bytes
  have hr := B.returns
  have hts := atoms_spec (ws := wsX3_triesWithFinds) B.pre
  have hown : s.vm.findClass RX3 = some m.cls := findClass_of_methodNamed B.named
  have hlocks := B.notSynchronized
  subst hsz
  have hD := hD0.self (sz := s.heap.size)
  generalize hAe : va_A [(a_p0, .inr (3, [.ref a_p0_kitchen, .ref a_p0_rows, .ref a_p0_later, .ref a_p0_finds])), (a_p0_kitchen, .inr (2, [.ref a_p0_kitchen_rules, .ref a_p0_kitchen_state, .ref a_p0_kitchen_places, .ref a_p0_kitchen_holders, .ref a_p0_kitchen_stirred])), (a_p0_kitchen_rules, .inr (6, [.int (Int32.ofInt i_p0_kitchen_rules_seats), .int (Int32.ofInt i_p0_kitchen_rules_stirs), .ref a_p0_kitchen_rules_need, .ref a_p0_kitchen_rules_kind, .ref a_p0_kitchen_rules_first, .ref a_p0_kitchen_rules_second, .ref a_p0_kitchen_rules_after])), (a_p0_finds, .inl (G 2, 13, .inr (.inl (zL v_p0_finds))))] s.heap.size = A at hD ⊢
  have hA : ∀ q : Nat, s.heap.size ≤ q → A q := fun q h => by rw [← hAe]; exact Or.inr h
  clear hAe hD0
  have hS : va_S A s.heap s.heap [] := va_S.rf
  have hl := lv_entry ([.ref a_p0, .int (Int32.ofInt x1), .int (Int32.ofInt x2)]) (n := 6) (Nat.le_of_ble_eq_true rfl)
  rw [lg_entry_eq]
  generalize (lg_sl ([.ref a_p0, .int (Int32.ofInt x1), .int (Int32.ofInt x2)]) ++ List.replicate (6 - (lg_sl ([.ref a_p0, .int (Int32.ofInt x1), .int (Int32.ofInt x2)])).length) Slot.unset).toArray = ls at hl ⊢
  have hl : lv_has ls 6 [(0, .ref a_p0), (1, .int (Int32.ofInt x1)), (2, .int (Int32.ofInt x2))] := hl
  refine W_nameQ (fun Q hQ => ?_)
  obtain ⟨H, hH⟩ : ∃ H, H = s.heap := ⟨_, rfl⟩
  replace hS : va_S A s.heap H [] := by rw [hH]; exact hS
  replace hP : va_P D vwCl [(a_p0, .inr (3, [.ref a_p0_kitchen, .ref a_p0_rows, .ref a_p0_later, .ref a_p0_finds])), (a_p0_kitchen, .inr (2, [.ref a_p0_kitchen_rules, .ref a_p0_kitchen_state, .ref a_p0_kitchen_places, .ref a_p0_kitchen_holders, .ref a_p0_kitchen_stirred])), (a_p0_kitchen_rules, .inr (6, [.int (Int32.ofInt i_p0_kitchen_rules_seats), .int (Int32.ofInt i_p0_kitchen_rules_stirs), .ref a_p0_kitchen_rules_need, .ref a_p0_kitchen_rules_kind, .ref a_p0_kitchen_rules_first, .ref a_p0_kitchen_rules_second, .ref a_p0_kitchen_rules_after])), (a_p0_finds, .inl (G 2, 13, .inr (.inl (zL v_p0_finds))))] H := by rw [hH]; exact hP
  rw [← hH]
  clear hH
  unfold f_X3_triesWithFinds at hf
  refine lv_aload_n hx hb dX3_triesWithFinds_0 rfl (lv_at hl 0 rfl) ?_
  refine va_get (D := D) (ci := 3) (v := .ref a_p0_finds) (C := RX3) (T := TX3) (N := 4) hx hb hts inX3_triesWithFinds_X3 hown hK hP 0 rfl rfl 3 (by decide) (hts _ mwX3_triesWithFinds_1) (fun _ h9 => h9) rfl dX3_triesWithFinds_1 ?_
  refine lv_lconst (v := Int64.ofInt (0 : Int)) hx hb dX3_triesWithFinds_4 (by decide) ?_
  have hq := bd1_s hf
  clear hf
  obtain ⟨w1, hcall, hf⟩ := hq
  refine gsV (ws' := [(a_p0, .inr (3, [.ref a_p0_kitchen, .ref a_p0_rows, .ref a_p0_later, .ref a_p0_finds])), (a_p0_kitchen, .inr (2, [.ref a_p0_kitchen_rules, .ref a_p0_kitchen_state, .ref a_p0_kitchen_places, .ref a_p0_kitchen_holders, .ref a_p0_kitchen_stirred])), (a_p0_kitchen_rules, .inr (6, [.int (Int32.ofInt i_p0_kitchen_rules_seats), .int (Int32.ofInt i_p0_kitchen_rules_stirs), .ref a_p0_kitchen_rules_need, .ref a_p0_kitchen_rules_kind, .ref a_p0_kitchen_rules_first, .ref a_p0_kitchen_rules_second, .ref a_p0_kitchen_rules_after])), (a_p0_finds, .inl (G 2, 13, .inr (.inl (zL w1))))]) (va_runS (As := [.ref a_p0_finds, .long (Int64.ofInt (0 : Int))]) (rest := []) ⟨hx, hb, hml, hown, hts⟩ (c_J7_fill_d0a16 (l := l) (D := D) (G := G) (sz := H.size) (a_p0 := a_p0_finds) (n_p0 := 13) (v_p0 := v_p0_finds) (x1 := (0 : Int)) (o_v_p0 := w1) (hf := hcall)) (va_cwS 2 hts gX3_triesWithFinds_J7_fill_d0a16 rfl rfl rfl (by decide +kernel) ⟨Nat.le_of_ble_eq_true rfl, Nat.le_of_ble_eq_true rfl⟩) (preG_S (hP.sub [3] rfl) (hD.sub [3] rfl rfl) hK) rfl rfl hl.1 rfl (lv_room (Nat.le_of_ble_eq_true rfl)) dX3_triesWithFinds_5 ⟨Nat.le_of_ble_eq_true rfl, Nat.le_of_ble_eq_true rfl⟩) hP hD hS hA [3] rfl rfl rfl (fun H locs hP hD hS => ?_)
  clear hcall
  refine lv_aload_n hx hb dX3_triesWithFinds_8 rfl (lv_at hl 0 rfl) ?_
  refine va_get (D := D) (ci := 3) (v := .ref a_p0_finds) (C := RX3) (T := TX3) (N := 4) hx hb hts inX3_triesWithFinds_X3 hown hK hP 0 rfl rfl 3 (by decide) (hts _ mwX3_triesWithFinds_1) (fun _ h9 => h9) rfl dX3_triesWithFinds_9 ?_
  refine lv_iconst (v := Int32.ofInt (0 : Int)) hx hb dX3_triesWithFinds_12 (by decide) ?_
  refine lv_lconst (v := Int64.ofInt (1 : Int)) hx hb dX3_triesWithFinds_13 (by decide) ?_
  have hc := ck_c hf
  replace hf := ck_r hf
  refine zs_last (wf := fun w2 => [(a_p0, .inr (3, [.ref a_p0_kitchen, .ref a_p0_rows, .ref a_p0_later, .ref a_p0_finds])), (a_p0_kitchen, .inr (2, [.ref a_p0_kitchen_rules, .ref a_p0_kitchen_state, .ref a_p0_kitchen_places, .ref a_p0_kitchen_holders, .ref a_p0_kitchen_stirred])), (a_p0_kitchen_rules, .inr (6, [.int (Int32.ofInt i_p0_kitchen_rules_seats), .int (Int32.ofInt i_p0_kitchen_rules_stirs), .ref a_p0_kitchen_rules_need, .ref a_p0_kitchen_rules_kind, .ref a_p0_kitchen_rules_first, .ref a_p0_kitchen_rules_second, .ref a_p0_kitchen_rules_after])), (a_p0_finds, .inl (G 2, 13, .inr (.inl (zL w2))))]) hx hb hK hP hD hS 3 2 rfl rfl hc dX3_triesWithFinds_14 (fun _ => rfl) (fun w2 ez H locs hP hD hS => ?_)
  replace hf := bnd_s hf ez
  clear ez hc
  refine lv_iconst (v := Int32.ofInt (1 : Int)) hx hb dX3_triesWithFinds_15 (by decide) ?_
  refine z_topi (fun z3 ez => ?_)
  replace hf := bnd_s hf ez
  clear ez
  refine lv_istore_n (lv' := [(3, .int (Int32.ofInt z3)), (0, .ref a_p0), (1, .int (Int32.ofInt x1)), (2, .int (Int32.ofInt x2))]) hx hb dX3_triesWithFinds_16 rfl hl (by decide) rfl (fun ls hl => ?_)
  have hq := jn_i hf
  clear hf
  obtain ⟨J5, eJ5, hf⟩ := hq
  have hJ5 : ∀ (w4 : (Int → Int)) (ls : Array Slot) (H : Heap) (locs : List Loc), lv_has ls 6 [(0, .ref a_p0), (1, .int (Int32.ofInt x1)), (2, .int (Int32.ofInt x2))] → va_P D vwCl [(a_p0, .inr (3, [.ref a_p0_kitchen, .ref a_p0_rows, .ref a_p0_later, .ref a_p0_finds])), (a_p0_kitchen, .inr (2, [.ref a_p0_kitchen_rules, .ref a_p0_kitchen_state, .ref a_p0_kitchen_places, .ref a_p0_kitchen_holders, .ref a_p0_kitchen_stirred])), (a_p0_kitchen_rules, .inr (6, [.int (Int32.ofInt i_p0_kitchen_rules_seats), .int (Int32.ofInt i_p0_kitchen_rules_stirs), .ref a_p0_kitchen_rules_need, .ref a_p0_kitchen_rules_kind, .ref a_p0_kitchen_rules_first, .ref a_p0_kitchen_rules_second, .ref a_p0_kitchen_rules_after])), (a_p0_finds, .inl (G 2, 13, .inr (.inl (zL w4))))] H → va_D A [(a_p0, .inr (3, [.ref a_p0_kitchen, .ref a_p0_rows, .ref a_p0_later, .ref a_p0_finds])), (a_p0_kitchen, .inr (2, [.ref a_p0_kitchen_rules, .ref a_p0_kitchen_state, .ref a_p0_kitchen_places, .ref a_p0_kitchen_holders, .ref a_p0_kitchen_stirred])), (a_p0_kitchen_rules, .inr (6, [.int (Int32.ofInt i_p0_kitchen_rules_seats), .int (Int32.ofInt i_p0_kitchen_rules_stirs), .ref a_p0_kitchen_rules_need, .ref a_p0_kitchen_rules_kind, .ref a_p0_kitchen_rules_first, .ref a_p0_kitchen_rules_second, .ref a_p0_kitchen_rules_after])), (a_p0_finds, .inl (G 2, 13, .inr (.inl (zL w4))))] → va_S A s.heap H locs → J5 w4 = some (r, o_v_p0_finds) → W p l e rm_X3_triesWithFinds s m ([.ref a_p0, .int (Int32.ofInt x1), .int (Int32.ofInt x2)] : List Value).toArray below meth c H locs 0 0 Q (F0 m 102 ls []) := by
    clear hf hl hP hD hS
    intro w4 ls H locs hl hP hD hS hf
    replace hf := jn1_s eJ5 hf
    refine lv_lconst (v := Int64.ofInt (0 : Int)) hx hb dX3_triesWithFinds_102 (by decide) ?_
    refine z_topl (fun z6 ez => ?_)
    replace hf := bnd_s hf ez
    clear ez
    refine lv_lstore_n (lv' := [(3, .long (Int64.ofInt z6)), (0, .ref a_p0), (1, .int (Int32.ofInt x1)), (2, .int (Int32.ofInt x2))]) hx hb dX3_triesWithFinds_103 rfl hl (by decide) rfl (fun ls hl => ?_)
    refine lv_iload_n hx hb dX3_triesWithFinds_104 rfl (lv_at hl 2 rfl) ?_
    refine z_topi (fun z7 ez => ?_)
    replace hf := bnd_s hf ez
    clear ez
    refine lv_istore (lv' := [(5, .int (Int32.ofInt z7)), (3, .long (Int64.ofInt z6)), (0, .ref a_p0), (1, .int (Int32.ofInt x1)), (2, .int (Int32.ofInt x2))]) hx hb dX3_triesWithFinds_105 hl (by decide) rfl (fun ls hl => ?_)
    have hq := lq2_i hf
    clear hf
    obtain ⟨B10, eB10, NB10, hf⟩ := hq
    have hB10 : ∀ (n : Nat) (z8 : Int) (z9 : Int) (ls : Array Slot) (H : Heap) (locs : List Loc), lv_has ls 6 [(5, .int (Int32.ofInt z8)), (3, .long (Int64.ofInt z9)), (0, .ref a_p0), (2, .int (Int32.ofInt x2))] → va_P D vwCl [(a_p0, .inr (3, [.ref a_p0_kitchen, .ref a_p0_rows, .ref a_p0_later, .ref a_p0_finds])), (a_p0_kitchen, .inr (2, [.ref a_p0_kitchen_rules, .ref a_p0_kitchen_state, .ref a_p0_kitchen_places, .ref a_p0_kitchen_holders, .ref a_p0_kitchen_stirred])), (a_p0_kitchen_rules, .inr (6, [.int (Int32.ofInt i_p0_kitchen_rules_seats), .int (Int32.ofInt i_p0_kitchen_rules_stirs), .ref a_p0_kitchen_rules_need, .ref a_p0_kitchen_rules_kind, .ref a_p0_kitchen_rules_first, .ref a_p0_kitchen_rules_second, .ref a_p0_kitchen_rules_after])), (a_p0_finds, .inl (G 2, 13, .inr (.inl (zL w4))))] H → va_D A [(a_p0, .inr (3, [.ref a_p0_kitchen, .ref a_p0_rows, .ref a_p0_later, .ref a_p0_finds])), (a_p0_kitchen, .inr (2, [.ref a_p0_kitchen_rules, .ref a_p0_kitchen_state, .ref a_p0_kitchen_places, .ref a_p0_kitchen_holders, .ref a_p0_kitchen_stirred])), (a_p0_kitchen_rules, .inr (6, [.int (Int32.ofInt i_p0_kitchen_rules_seats), .int (Int32.ofInt i_p0_kitchen_rules_stirs), .ref a_p0_kitchen_rules_need, .ref a_p0_kitchen_rules_kind, .ref a_p0_kitchen_rules_first, .ref a_p0_kitchen_rules_second, .ref a_p0_kitchen_rules_after])), (a_p0_finds, .inl (G 2, 13, .inr (.inl (zL w4))))] → va_S A s.heap H locs → lq2 B10 n z8 z9 = some (r, o_v_p0_finds) → W p l e rm_X3_triesWithFinds s m ([.ref a_p0, .int (Int32.ofInt x1), .int (Int32.ofInt x2)] : List Value).toArray below meth c H locs 0 0 Q (F0 m 107 ls []) := by
      clear hf hl hP hD hS
      intro n
      induction n with
      | zero =>
        intro z8 z9 ls H locs hl hP hD hS hf
        exact (lq2_0 hf).elim
      | succ n ih107 =>
        intro z8 z9 ls H locs hl hP hD hS hf
        replace hf := lq2_s eB10 hf
        unfold B_X3_triesWithFinds_107 at hf
        refine lv_iload hx hb dX3_triesWithFinds_107 (lv_at hl 0 rfl) ?_
        refine lv_iload_n hx hb dX3_triesWithFinds_109 rfl (lv_at hl 3 rfl) ?_
        have hr10 := ck_c hf
        replace hf := ck_r hf
        have hr11 := ck_c hf
        replace hf := ck_r hf
        refine lv_icmp_gt (tgt := 129) hx hb dX3_triesWithFinds_110 (by decide) (fun cc => ?_) (fun cc => ?_)
        ·
          replace hf := ite_t ((z_lt hr11 hr10).mp cc) hf
          clear cc
          refine lv_lload_n hx hb dX3_triesWithFinds_129 rfl (lv_at hl 1 rfl) ?_
          obtain ⟨rfl, rfl⟩ := ou2 hf
          rw [hQ]
          exact W.lret hx hb hr (fun t ht hW => ⟨⟨_, (), rfl, rfl, by rw [ht]; exact hP, va_K.moved hW.alike hK, hD⟩, hS.F ht⟩) hS.2.2 dX3_triesWithFinds_130
        ·
          replace hf := ite_f (fun h9 => cc ((z_lt hr11 hr10).mpr h9)) hf
          clear cc
          refine lv_lload_n hx hb dX3_triesWithFinds_113 rfl (lv_at hl 1 rfl) ?_
          refine lv_aload_n hx hb dX3_triesWithFinds_114 rfl (lv_at hl 2 rfl) ?_
          refine va_get (D := D) (ci := 3) (v := .ref a_p0_finds) (C := RX3) (T := TX3) (N := 4) hx hb hts inX3_triesWithFinds_X3 hown hK hP 0 rfl rfl 3 (by decide) (hts _ mwX3_triesWithFinds_1) (fun _ h9 => h9) rfl dX3_triesWithFinds_115 ?_
          refine lv_iload hx hb dX3_triesWithFinds_118 (lv_at hl 0 rfl) ?_
          have hc := ck_c hf
          replace hf := ck_r hf
          refine va_lald hx hb hK hP 3 2 rfl rfl (z_ix_in hc) dX3_triesWithFinds_120 (z_cl (z_aldL w4 hc) ?_)
          clear hc
          refine lv_ladd hx hb dX3_triesWithFinds_121 (z_cl (Int64.ofInt_add z9 (w4 z8)) ?_)
          refine z_topl (fun z13 ez => ?_)
          replace hf := bnd_s hf ez
          clear ez
          refine lv_lstore_n (lv' := [(3, .long (Int64.ofInt z13)), (5, .int (Int32.ofInt z8)), (0, .ref a_p0), (2, .int (Int32.ofInt x2))]) hx hb dX3_triesWithFinds_122 rfl hl (by decide) rfl (fun ls hl => ?_)
          obtain ⟨z14, ez⟩ : ∃ y : Int, y = (z8 + (1 : Int)) := ⟨_, rfl⟩
          replace hf := bnd_s hf ez
          refine lv_iinc (v := Int32.ofInt z14) (lv' := [(5, .int (Int32.ofInt z14)), (3, .long (Int64.ofInt z13)), (0, .ref a_p0), (2, .int (Int32.ofInt x2))]) hx hb dX3_triesWithFinds_123 hl (k := 1) rfl (by rw [ez]; exact (Int32.ofInt_add _ _).symm) (by decide) rfl (fun ls hl => ?_)
          clear ez
          refine lv_goto (tgt := 107) hx hb dX3_triesWithFinds_126 (by decide) ?_
          exact ih107 _ _ _ _ _ (lv_sub hl [0, 1, 2, 3] rfl) hP hD hS hf
    exact hB10 _ _ _ _ _ _ (lv_sub hl [0, 1, 2, 4] rfl) hP hD hS hf
  have hq := lq2_i hf
  clear hf
  obtain ⟨B17, eB17, NB17, hf⟩ := hq
  have hB17 : ∀ (n : Nat) (z15 : Int) (w16 : (Int → Int)) (ls : Array Slot) (H : Heap) (locs : List Loc), lv_has ls 6 [(3, .int (Int32.ofInt z15)), (0, .ref a_p0), (1, .int (Int32.ofInt x1)), (2, .int (Int32.ofInt x2))] → va_P D vwCl [(a_p0, .inr (3, [.ref a_p0_kitchen, .ref a_p0_rows, .ref a_p0_later, .ref a_p0_finds])), (a_p0_kitchen, .inr (2, [.ref a_p0_kitchen_rules, .ref a_p0_kitchen_state, .ref a_p0_kitchen_places, .ref a_p0_kitchen_holders, .ref a_p0_kitchen_stirred])), (a_p0_kitchen_rules, .inr (6, [.int (Int32.ofInt i_p0_kitchen_rules_seats), .int (Int32.ofInt i_p0_kitchen_rules_stirs), .ref a_p0_kitchen_rules_need, .ref a_p0_kitchen_rules_kind, .ref a_p0_kitchen_rules_first, .ref a_p0_kitchen_rules_second, .ref a_p0_kitchen_rules_after])), (a_p0_finds, .inl (G 2, 13, .inr (.inl (zL w16))))] H → va_D A [(a_p0, .inr (3, [.ref a_p0_kitchen, .ref a_p0_rows, .ref a_p0_later, .ref a_p0_finds])), (a_p0_kitchen, .inr (2, [.ref a_p0_kitchen_rules, .ref a_p0_kitchen_state, .ref a_p0_kitchen_places, .ref a_p0_kitchen_holders, .ref a_p0_kitchen_stirred])), (a_p0_kitchen_rules, .inr (6, [.int (Int32.ofInt i_p0_kitchen_rules_seats), .int (Int32.ofInt i_p0_kitchen_rules_stirs), .ref a_p0_kitchen_rules_need, .ref a_p0_kitchen_rules_kind, .ref a_p0_kitchen_rules_first, .ref a_p0_kitchen_rules_second, .ref a_p0_kitchen_rules_after])), (a_p0_finds, .inl (G 2, 13, .inr (.inl (zL w16))))] → va_S A s.heap H locs → lq2 B17 n z15 w16 = some (r, o_v_p0_finds) → W p l e rm_X3_triesWithFinds s m ([.ref a_p0, .int (Int32.ofInt x1), .int (Int32.ofInt x2)] : List Value).toArray below meth c H locs 0 0 Q (F0 m 17 ls []) := by
    clear hf hl hP hD hS
    intro n
    induction n with
    | zero =>
      intro z15 w16 ls H locs hl hP hD hS hf
      exact (lq2_0 hf).elim
    | succ n ih17 =>
      intro z15 w16 ls H locs hl hP hD hS hf
      replace hf := lq2_s eB17 hf
      unfold B_X3_triesWithFinds_17 at hf
      refine lv_iload_n hx hb dX3_triesWithFinds_17 rfl (lv_at hl 0 rfl) ?_
      refine lv_iload_n hx hb dX3_triesWithFinds_18 rfl (lv_at hl 3 rfl) ?_
      have hr17 := ck_c hf
      replace hf := ck_r hf
      have hr18 := ck_c hf
      replace hf := ck_r hf
      refine lv_icmp_gt (tgt := 102) hx hb dX3_triesWithFinds_19 (by decide) (fun cc => ?_) (fun cc => ?_)
      ·
        replace hf := ite_t ((z_lt hr18 hr17).mp cc) hf
        clear cc
        exact hJ5 _ _ _ _ (lv_sub hl [1, 2, 3] rfl) hP hD hS hf
      ·
        replace hf := ite_f (fun h9 => cc ((z_lt hr18 hr17).mpr h9)) hf
        clear cc
        refine lv_iload_n hx hb dX3_triesWithFinds_22 rfl (lv_at hl 0 rfl) ?_
        refine z_topi (fun z20 ez => ?_)
        replace hf := bnd_s hf ez
        clear ez
        refine lv_istore (lv' := [(4, .int (Int32.ofInt z20)), (3, .int (Int32.ofInt z15)), (0, .ref a_p0), (1, .int (Int32.ofInt x1)), (2, .int (Int32.ofInt x2))]) hx hb dX3_triesWithFinds_23 hl (by decide) rfl (fun ls hl => ?_)
        have hq := jn_i hf
        clear hf
        obtain ⟨J22, eJ22, hf⟩ := hq
        have hJ22 : ∀ (w21 : (Int → Int)) (ls : Array Slot) (H : Heap) (locs : List Loc), lv_has ls 6 [(3, .int (Int32.ofInt z15)), (0, .ref a_p0), (1, .int (Int32.ofInt x1)), (2, .int (Int32.ofInt x2))] → va_P D vwCl [(a_p0, .inr (3, [.ref a_p0_kitchen, .ref a_p0_rows, .ref a_p0_later, .ref a_p0_finds])), (a_p0_kitchen, .inr (2, [.ref a_p0_kitchen_rules, .ref a_p0_kitchen_state, .ref a_p0_kitchen_places, .ref a_p0_kitchen_holders, .ref a_p0_kitchen_stirred])), (a_p0_kitchen_rules, .inr (6, [.int (Int32.ofInt i_p0_kitchen_rules_seats), .int (Int32.ofInt i_p0_kitchen_rules_stirs), .ref a_p0_kitchen_rules_need, .ref a_p0_kitchen_rules_kind, .ref a_p0_kitchen_rules_first, .ref a_p0_kitchen_rules_second, .ref a_p0_kitchen_rules_after])), (a_p0_finds, .inl (G 2, 13, .inr (.inl (zL w21))))] H → va_D A [(a_p0, .inr (3, [.ref a_p0_kitchen, .ref a_p0_rows, .ref a_p0_later, .ref a_p0_finds])), (a_p0_kitchen, .inr (2, [.ref a_p0_kitchen_rules, .ref a_p0_kitchen_state, .ref a_p0_kitchen_places, .ref a_p0_kitchen_holders, .ref a_p0_kitchen_stirred])), (a_p0_kitchen_rules, .inr (6, [.int (Int32.ofInt i_p0_kitchen_rules_seats), .int (Int32.ofInt i_p0_kitchen_rules_stirs), .ref a_p0_kitchen_rules_need, .ref a_p0_kitchen_rules_kind, .ref a_p0_kitchen_rules_first, .ref a_p0_kitchen_rules_second, .ref a_p0_kitchen_rules_after])), (a_p0_finds, .inl (G 2, 13, .inr (.inl (zL w21))))] → va_S A s.heap H locs → J22 w21 = some (r, o_v_p0_finds) → W p l e rm_X3_triesWithFinds s m ([.ref a_p0, .int (Int32.ofInt x1), .int (Int32.ofInt x2)] : List Value).toArray below meth c H locs 0 0 Q (F0 m 74 ls []) := by
          clear hf hl hP hD hS
          intro w21 ls H locs hl hP hD hS hf
          replace hf := jn1_s eJ22 hf
          refine lv_aload_n hx hb dX3_triesWithFinds_74 rfl (lv_at hl 1 rfl) ?_
          refine va_get (D := D) (ci := 3) (v := .ref a_p0_finds) (C := RX3) (T := TX3) (N := 4) hx hb hts inX3_triesWithFinds_X3 hown hK hP 0 rfl rfl 3 (by decide) (hts _ mwX3_triesWithFinds_1) (fun _ h9 => h9) rfl dX3_triesWithFinds_75 ?_
          refine lv_iconst (v := Int32.ofInt (0 : Int)) hx hb dX3_triesWithFinds_78 (by decide) ?_
          refine lv_dup2_11 hx hb dX3_triesWithFinds_79 rfl rfl ?_
          have hc := ck_c hf
          replace hf := ck_r hf
          refine va_lald hx hb hK hP 3 2 rfl rfl (z_ix_in hc) dX3_triesWithFinds_80 (z_cl (z_aldL w21 hc) ?_)
          clear hc
          refine lv_aload_n hx hb dX3_triesWithFinds_81 rfl (lv_at hl 1 rfl) ?_
          refine va_get (D := D) (ci := 3) (v := .ref a_p0_kitchen) (C := RX3) (T := TX3) (N := 4) hx hb hts inX3_triesWithFinds_X3 hown hK hP 0 rfl rfl 0 (by decide) (hts _ mwX3_triesWithFinds_2) (fun _ h9 => h9) rfl dX3_triesWithFinds_82 ?_
          refine va_get (D := D) (ci := 2) (v := .ref a_p0_kitchen_rules) (C := RX2) (T := TX2) (N := 5) hx hb hts inX3_triesWithFinds_X2 hown hK hP 1 rfl rfl 0 (by decide) (hts _ mwX3_triesWithFinds_4) (fun _ h9 => h9) rfl dX3_triesWithFinds_85 ?_
          refine va_get (D := D) (ci := 6) (v := .int (Int32.ofInt i_p0_kitchen_rules_seats)) (C := RX6) (T := TX6) (N := 7) hx hb hts inX3_triesWithFinds_X6 hown hK hP 2 rfl rfl 0 (by decide) (hts _ mwX3_triesWithFinds_6) (fun _ h9 => h9) rfl dX3_triesWithFinds_88 ?_
          refine lv_iconst (v := Int32.ofInt (1 : Int)) hx hb dX3_triesWithFinds_91 (by decide) ?_
          refine lv_isub hx hb dX3_triesWithFinds_92 (z_ci (Int32.ofInt_sub i_p0_kitchen_rules_seats (1 : Int)) ?_)
          have hr22 := ck_c hf
          replace hf := ck_r hf
          refine lv_i2l (v := Int64.ofInt (i_p0_kitchen_rules_seats - (1 : Int))) hx hb dX3_triesWithFinds_93 (z_i2l hr22) ?_
          refine lv_lmul hx hb dX3_triesWithFinds_94 (z_cl (Int64.ofInt_mul (w21 (0 : Int)) (i_p0_kitchen_rules_seats - (1 : Int))) ?_)
          have hc := ck_c hf
          replace hf := ck_r hf
          refine zs_last (wf := fun w24 => [(a_p0, .inr (3, [.ref a_p0_kitchen, .ref a_p0_rows, .ref a_p0_later, .ref a_p0_finds])), (a_p0_kitchen, .inr (2, [.ref a_p0_kitchen_rules, .ref a_p0_kitchen_state, .ref a_p0_kitchen_places, .ref a_p0_kitchen_holders, .ref a_p0_kitchen_stirred])), (a_p0_kitchen_rules, .inr (6, [.int (Int32.ofInt i_p0_kitchen_rules_seats), .int (Int32.ofInt i_p0_kitchen_rules_stirs), .ref a_p0_kitchen_rules_need, .ref a_p0_kitchen_rules_kind, .ref a_p0_kitchen_rules_first, .ref a_p0_kitchen_rules_second, .ref a_p0_kitchen_rules_after])), (a_p0_finds, .inl (G 2, 13, .inr (.inl (zL w24))))]) hx hb hK hP hD hS 3 2 rfl rfl hc dX3_triesWithFinds_95 (fun _ => rfl) (fun w24 ez H locs hP hD hS => ?_)
          replace hf := bnd_s hf ez
          clear ez hc
          obtain ⟨z25, ez⟩ : ∃ y : Int, y = (z15 + (1 : Int)) := ⟨_, rfl⟩
          replace hf := bnd_s hf ez
          refine lv_iinc (v := Int32.ofInt z25) (lv' := [(3, .int (Int32.ofInt z25)), (0, .ref a_p0), (1, .int (Int32.ofInt x1)), (2, .int (Int32.ofInt x2))]) hx hb dX3_triesWithFinds_96 hl (k := 0) rfl (by rw [ez]; exact (Int32.ofInt_add _ _).symm) (by decide) rfl (fun ls hl => ?_)
          clear ez
          refine lv_goto (tgt := 17) hx hb dX3_triesWithFinds_99 (by decide) ?_
          exact ih17 _ _ _ _ _ (lv_sub hl [0, 1, 2, 3] rfl) hP hD hS hf
        have hq := lq2_i hf
        clear hf
        obtain ⟨B28, eB28, NB28, hf⟩ := hq
        have hB28 : ∀ (n : Nat) (z26 : Int) (w27 : (Int → Int)) (ls : Array Slot) (H : Heap) (locs : List Loc), lv_has ls 6 [(4, .int (Int32.ofInt z26)), (3, .int (Int32.ofInt z15)), (0, .ref a_p0), (1, .int (Int32.ofInt x1)), (2, .int (Int32.ofInt x2))] → va_P D vwCl [(a_p0, .inr (3, [.ref a_p0_kitchen, .ref a_p0_rows, .ref a_p0_later, .ref a_p0_finds])), (a_p0_kitchen, .inr (2, [.ref a_p0_kitchen_rules, .ref a_p0_kitchen_state, .ref a_p0_kitchen_places, .ref a_p0_kitchen_holders, .ref a_p0_kitchen_stirred])), (a_p0_kitchen_rules, .inr (6, [.int (Int32.ofInt i_p0_kitchen_rules_seats), .int (Int32.ofInt i_p0_kitchen_rules_stirs), .ref a_p0_kitchen_rules_need, .ref a_p0_kitchen_rules_kind, .ref a_p0_kitchen_rules_first, .ref a_p0_kitchen_rules_second, .ref a_p0_kitchen_rules_after])), (a_p0_finds, .inl (G 2, 13, .inr (.inl (zL w27))))] H → va_D A [(a_p0, .inr (3, [.ref a_p0_kitchen, .ref a_p0_rows, .ref a_p0_later, .ref a_p0_finds])), (a_p0_kitchen, .inr (2, [.ref a_p0_kitchen_rules, .ref a_p0_kitchen_state, .ref a_p0_kitchen_places, .ref a_p0_kitchen_holders, .ref a_p0_kitchen_stirred])), (a_p0_kitchen_rules, .inr (6, [.int (Int32.ofInt i_p0_kitchen_rules_seats), .int (Int32.ofInt i_p0_kitchen_rules_stirs), .ref a_p0_kitchen_rules_need, .ref a_p0_kitchen_rules_kind, .ref a_p0_kitchen_rules_first, .ref a_p0_kitchen_rules_second, .ref a_p0_kitchen_rules_after])), (a_p0_finds, .inl (G 2, 13, .inr (.inl (zL w27))))] → va_S A s.heap H locs → lq2 B28 n z26 w27 = some (r, o_v_p0_finds) → W p l e rm_X3_triesWithFinds s m ([.ref a_p0, .int (Int32.ofInt x1), .int (Int32.ofInt x2)] : List Value).toArray below meth c H locs 0 0 Q (F0 m 25 ls []) := by
          clear hf hl hP hD hS
          intro n
          induction n with
          | zero =>
            intro z26 w27 ls H locs hl hP hD hS hf
            exact (lq2_0 hf).elim
          | succ n ih25 =>
            intro z26 w27 ls H locs hl hP hD hS hf
            replace hf := lq2_s eB28 hf
            unfold B_X3_triesWithFinds_25 at hf
            refine lv_iload hx hb dX3_triesWithFinds_25 (lv_at hl 0 rfl) ?_
            have hr28 := ck_c hf
            replace hf := ck_r hf
            refine lv_if_le (tgt := 74) hx hb dX3_triesWithFinds_27 (by decide) (fun cc => ?_) (fun cc => ?_)
            ·
              replace hf := ite_t ((z_le0 hr28).mp cc) hf
              clear cc
              exact hJ22 _ _ _ _ (lv_sub hl [1, 2, 3, 4] rfl) hP hD hS hf
            ·
              replace hf := ite_f (fun h9 => cc ((z_le0 hr28).mpr h9)) hf
              clear cc
              refine lv_aload_n hx hb dX3_triesWithFinds_30 rfl (lv_at hl 2 rfl) ?_
              refine va_get (D := D) (ci := 3) (v := .ref a_p0_finds) (C := RX3) (T := TX3) (N := 4) hx hb hts inX3_triesWithFinds_X3 hown hK hP 0 rfl rfl 3 (by decide) (hts _ mwX3_triesWithFinds_1) (fun _ h9 => h9) rfl dX3_triesWithFinds_31 ?_
              refine lv_iload hx hb dX3_triesWithFinds_34 (lv_at hl 0 rfl) ?_
              refine lv_aload_n hx hb dX3_triesWithFinds_36 rfl (lv_at hl 2 rfl) ?_
              refine va_get (D := D) (ci := 3) (v := .ref a_p0_finds) (C := RX3) (T := TX3) (N := 4) hx hb hts inX3_triesWithFinds_X3 hown hK hP 0 rfl rfl 3 (by decide) (hts _ mwX3_triesWithFinds_1) (fun _ h9 => h9) rfl dX3_triesWithFinds_37 ?_
              refine lv_iload hx hb dX3_triesWithFinds_40 (lv_at hl 0 rfl) ?_
              have hc := ck_c hf
              replace hf := ck_r hf
              refine va_lald hx hb hK hP 3 2 rfl rfl (z_ix_in hc) dX3_triesWithFinds_42 (z_cl (z_aldL w27 hc) ?_)
              clear hc
              refine lv_aload_n hx hb dX3_triesWithFinds_43 rfl (lv_at hl 2 rfl) ?_
              refine va_get (D := D) (ci := 3) (v := .ref a_p0_kitchen) (C := RX3) (T := TX3) (N := 4) hx hb hts inX3_triesWithFinds_X3 hown hK hP 0 rfl rfl 0 (by decide) (hts _ mwX3_triesWithFinds_2) (fun _ h9 => h9) rfl dX3_triesWithFinds_44 ?_
              refine va_get (D := D) (ci := 2) (v := .ref a_p0_kitchen_rules) (C := RX2) (T := TX2) (N := 5) hx hb hts inX3_triesWithFinds_X2 hown hK hP 1 rfl rfl 0 (by decide) (hts _ mwX3_triesWithFinds_4) (fun _ h9 => h9) rfl dX3_triesWithFinds_47 ?_
              refine va_get (D := D) (ci := 6) (v := .int (Int32.ofInt i_p0_kitchen_rules_seats)) (C := RX6) (T := TX6) (N := 7) hx hb hts inX3_triesWithFinds_X6 hown hK hP 2 rfl rfl 0 (by decide) (hts _ mwX3_triesWithFinds_6) (fun _ h9 => h9) rfl dX3_triesWithFinds_50 ?_
              refine lv_iconst (v := Int32.ofInt (1 : Int)) hx hb dX3_triesWithFinds_53 (by decide) ?_
              refine lv_isub hx hb dX3_triesWithFinds_54 (z_ci (Int32.ofInt_sub i_p0_kitchen_rules_seats (1 : Int)) ?_)
              have hr29 := ck_c hf
              replace hf := ck_r hf
              refine lv_i2l (v := Int64.ofInt (i_p0_kitchen_rules_seats - (1 : Int))) hx hb dX3_triesWithFinds_55 (z_i2l hr29) ?_
              refine lv_lmul hx hb dX3_triesWithFinds_56 (z_cl (Int64.ofInt_mul (w27 z26) (i_p0_kitchen_rules_seats - (1 : Int))) ?_)
              refine lv_aload_n hx hb dX3_triesWithFinds_57 rfl (lv_at hl 2 rfl) ?_
              refine va_get (D := D) (ci := 3) (v := .ref a_p0_finds) (C := RX3) (T := TX3) (N := 4) hx hb hts inX3_triesWithFinds_X3 hown hK hP 0 rfl rfl 3 (by decide) (hts _ mwX3_triesWithFinds_1) (fun _ h9 => h9) rfl dX3_triesWithFinds_58 ?_
              refine lv_iload hx hb dX3_triesWithFinds_61 (lv_at hl 0 rfl) ?_
              refine lv_iconst (v := Int32.ofInt (1 : Int)) hx hb dX3_triesWithFinds_63 (by decide) ?_
              refine lv_isub hx hb dX3_triesWithFinds_64 (z_ci (Int32.ofInt_sub z26 (1 : Int)) ?_)
              have hc := ck_c hf
              replace hf := ck_r hf
              refine va_lald hx hb hK hP 3 2 rfl rfl (z_ix_in hc) dX3_triesWithFinds_65 (z_cl (z_aldL w27 hc) ?_)
              clear hc
              refine lv_ladd hx hb dX3_triesWithFinds_66 (z_cl (Int64.ofInt_add ((w27 z26) * (i_p0_kitchen_rules_seats - (1 : Int))) (w27 (z26 - (1 : Int)))) ?_)
              have hc := ck_c hf
              replace hf := ck_r hf
              refine zs_last (wf := fun w31 => [(a_p0, .inr (3, [.ref a_p0_kitchen, .ref a_p0_rows, .ref a_p0_later, .ref a_p0_finds])), (a_p0_kitchen, .inr (2, [.ref a_p0_kitchen_rules, .ref a_p0_kitchen_state, .ref a_p0_kitchen_places, .ref a_p0_kitchen_holders, .ref a_p0_kitchen_stirred])), (a_p0_kitchen_rules, .inr (6, [.int (Int32.ofInt i_p0_kitchen_rules_seats), .int (Int32.ofInt i_p0_kitchen_rules_stirs), .ref a_p0_kitchen_rules_need, .ref a_p0_kitchen_rules_kind, .ref a_p0_kitchen_rules_first, .ref a_p0_kitchen_rules_second, .ref a_p0_kitchen_rules_after])), (a_p0_finds, .inl (G 2, 13, .inr (.inl (zL w31))))]) hx hb hK hP hD hS 3 2 rfl rfl hc dX3_triesWithFinds_67 (fun _ => rfl) (fun w31 ez H locs hP hD hS => ?_)
              replace hf := bnd_s hf ez
              clear ez hc
              obtain ⟨z32, ez⟩ : ∃ y : Int, y = (z26 + (-1 : Int)) := ⟨_, rfl⟩
              replace hf := bnd_s hf ez
              refine lv_iinc (v := Int32.ofInt z32) (lv' := [(4, .int (Int32.ofInt z32)), (3, .int (Int32.ofInt z15)), (0, .ref a_p0), (1, .int (Int32.ofInt x1)), (2, .int (Int32.ofInt x2))]) hx hb dX3_triesWithFinds_68 hl (k := 0) rfl (by rw [ez]; exact (Int32.ofInt_add _ _).symm) (by decide) rfl (fun ls hl => ?_)
              clear ez
              refine lv_goto (tgt := 25) hx hb dX3_triesWithFinds_71 (by decide) ?_
              exact ih25 _ _ _ _ _ (lv_sub hl [0, 1, 2, 3, 4] rfl) hP hD hS hf
        exact hB28 _ _ _ _ _ _ (lv_sub hl [0, 1, 2, 3, 4] rfl) hP hD hS hf
  exact hB17 _ _ _ _ _ _ (lv_sub hl [0, 1, 2, 3] rfl) hP hD hS hf

noncomputable def B_X3_power_5 (x1 : Int) (x0 : Int) (again5 : Int → Int → Option (Int)) (z3 : Int) (z4 : Int) : Option (Int) := (ck (z_r32 z3) (ck (z_r32 x1) (if x1 ≤ z3 then (some z4) else (ck (z_r32 x0) (bnd (z4 * x0) (fun (z9 : Int) => (bnd (z3 + (1 : Int)) (fun (z10 : Int) => (again5 z10 z9)))))))))
noncomputable def f_X3_power (x0 : Int) (x1 : Int) : Option (Int) := (bnd (1 : Int) (fun (z1 : Int) => (bnd (0 : Int) (fun (z2 : Int) => (lq2 (B_X3_power_5 x1 x0) 1000 z2 z1)))))
abbrev rm_X3_power : Room := { frames := 0, cells := 0, slots := 0, locals := 0 }
set_option maxHeartbeats 8000000 in
set_option maxRecDepth 100000 in
theorem c_X3_power (l : Launch) (D : va_G) (G : Nat → ClassId) (sz : Nat) (x0 : Int) (x1 : Int) (r : Int) (hf : f_X3_power x0 x1 = some r) : Met l yX3_power wsX3_power rm_X3_power (pcG D G [.int (Int32.ofInt x0), .int (Int32.ofInt x1)] sz []) (qcL D G (Int64.ofInt r) [] (va_A [] sz)) 0 0 (va_A [] sz) := by
  refine Met.ofW (cc := cX3_power) (maxL := 5) (ret := (some .long)) (by decide) rfl ?_
  intro p e s m args below meth c s₁ B hml hv
  obtain ⟨rfl, hsz, hP, hK, hD0⟩ := hv
  have hx := B.exec
  have hb := B.bytes
  have hr := B.returns
  have hts := atoms_spec (ws := wsX3_power) B.pre
  have hown : s.vm.findClass RX3 = some m.cls := findClass_of_methodNamed B.named
  have hlocks := B.notSynchronized
  subst hsz
  have hD := hD0.self (sz := s.heap.size)
  generalize hAe : va_A [] s.heap.size = A at hD ⊢
  have hA : ∀ q : Nat, s.heap.size ≤ q → A q := fun q h => by rw [← hAe]; exact Or.inr h
  clear hAe hD0
  have hS : va_S A s.heap s.heap [] := va_S.rf
  have hl := lv_entry ([.int (Int32.ofInt x0), .int (Int32.ofInt x1)]) (n := 5) (Nat.le_of_ble_eq_true rfl)
  rw [lg_entry_eq]
  generalize (lg_sl ([.int (Int32.ofInt x0), .int (Int32.ofInt x1)]) ++ List.replicate (5 - (lg_sl ([.int (Int32.ofInt x0), .int (Int32.ofInt x1)])).length) Slot.unset).toArray = ls at hl ⊢
  have hl : lv_has ls 5 [(0, .int (Int32.ofInt x0)), (1, .int (Int32.ofInt x1))] := hl
  refine W_nameQ (fun Q hQ => ?_)
  obtain ⟨H, hH⟩ : ∃ H, H = s.heap := ⟨_, rfl⟩
  replace hS : va_S A s.heap H [] := by rw [hH]; exact hS
  replace hP : va_P D vwCl [] H := by rw [hH]; exact hP
  rw [← hH]
  clear hH
  unfold f_X3_power at hf
  refine lv_lconst (v := Int64.ofInt (1 : Int)) hx hb dX3_power_0 (by decide) ?_
  refine z_topl (fun z1 ez => ?_)
  replace hf := bnd_s hf ez
  clear ez
  refine lv_lstore_n (lv' := [(2, .long (Int64.ofInt z1)), (0, .int (Int32.ofInt x0)), (1, .int (Int32.ofInt x1))]) hx hb dX3_power_1 rfl hl (by decide) rfl (fun ls hl => ?_)
  refine lv_iconst (v := Int32.ofInt (0 : Int)) hx hb dX3_power_2 (by decide) ?_
  refine z_topi (fun z2 ez => ?_)
  replace hf := bnd_s hf ez
  clear ez
  refine lv_istore (lv' := [(4, .int (Int32.ofInt z2)), (2, .long (Int64.ofInt z1)), (0, .int (Int32.ofInt x0)), (1, .int (Int32.ofInt x1))]) hx hb dX3_power_3 hl (by decide) rfl (fun ls hl => ?_)
  have hq := lq2_i hf
  clear hf
  obtain ⟨B5, eB5, NB5, hf⟩ := hq
  have hB5 : ∀ (n : Nat) (z3 : Int) (z4 : Int) (ls : Array Slot) (H : Heap) (locs : List Loc), lv_has ls 5 [(4, .int (Int32.ofInt z3)), (2, .long (Int64.ofInt z4)), (0, .int (Int32.ofInt x0)), (1, .int (Int32.ofInt x1))] → va_P D vwCl [] H → va_D A [] → va_S A s.heap H locs → lq2 B5 n z3 z4 = some r → W p l e rm_X3_power s m ([.int (Int32.ofInt x0), .int (Int32.ofInt x1)] : List Value).toArray below meth c H locs 0 0 Q (F0 m 5 ls []) := by
    clear hf hl hP hD hS
    intro n
    induction n with
    | zero =>
      intro z3 z4 ls H locs hl hP hD hS hf
      exact (lq2_0 hf).elim
    | succ n ih5 =>
      intro z3 z4 ls H locs hl hP hD hS hf
      replace hf := lq2_s eB5 hf
      unfold B_X3_power_5 at hf
      refine lv_iload hx hb dX3_power_5 (lv_at hl 0 rfl) ?_
      refine lv_iload_n hx hb dX3_power_7 rfl (lv_at hl 3 rfl) ?_
      have hr5 := ck_c hf
      replace hf := ck_r hf
      have hr6 := ck_c hf
      replace hf := ck_r hf
      refine lv_icmp_ge (tgt := 22) hx hb dX3_power_8 (by decide) (fun cc => ?_) (fun cc => ?_)
      ·
        replace hf := ite_t ((z_le hr6 hr5).mp cc) hf
        clear cc
        refine lv_lload_n hx hb dX3_power_22 rfl (lv_at hl 1 rfl) ?_
        obtain rfl := ou1 hf
        rw [hQ]
        exact W.lret hx hb hr (fun t ht hW => ⟨⟨_, (), rfl, rfl, by rw [ht]; exact hP, va_K.moved hW.alike hK, hD⟩, hS.F ht⟩) hS.2.2 dX3_power_23
      ·
        replace hf := ite_f (fun h9 => cc ((z_le hr6 hr5).mpr h9)) hf
        clear cc
        refine lv_lload_n hx hb dX3_power_11 rfl (lv_at hl 1 rfl) ?_
        refine lv_iload_n hx hb dX3_power_12 rfl (lv_at hl 2 rfl) ?_
        have hr7 := ck_c hf
        replace hf := ck_r hf
        refine lv_i2l (v := Int64.ofInt x0) hx hb dX3_power_13 (z_i2l hr7) ?_
        refine lv_lmul hx hb dX3_power_14 (z_cl (Int64.ofInt_mul z4 x0) ?_)
        refine z_topl (fun z9 ez => ?_)
        replace hf := bnd_s hf ez
        clear ez
        refine lv_lstore_n (lv' := [(2, .long (Int64.ofInt z9)), (4, .int (Int32.ofInt z3)), (0, .int (Int32.ofInt x0)), (1, .int (Int32.ofInt x1))]) hx hb dX3_power_15 rfl hl (by decide) rfl (fun ls hl => ?_)
        obtain ⟨z10, ez⟩ : ∃ y : Int, y = (z3 + (1 : Int)) := ⟨_, rfl⟩
        replace hf := bnd_s hf ez
        refine lv_iinc (v := Int32.ofInt z10) (lv' := [(4, .int (Int32.ofInt z10)), (2, .long (Int64.ofInt z9)), (0, .int (Int32.ofInt x0)), (1, .int (Int32.ofInt x1))]) hx hb dX3_power_16 hl (k := 1) rfl (by rw [ez]; exact (Int32.ofInt_add _ _).symm) (by decide) rfl (fun ls hl => ?_)
        clear ez
        refine lv_goto (tgt := 5) hx hb dX3_power_19 (by decide) ?_
        exact ih5 _ _ _ _ _ (lv_sub hl [0, 1, 2, 3] rfl) hP hD hS hf
  exact hB5 _ _ _ _ _ _ (lv_sub hl [0, 1, 2, 3] rfl) hP hD hS hf

noncomputable def B_X3_greatestDivisor_9 (again9 : Int → Int → Int → Option (Int)) (z4 : Int) (z5 : Int) (z6 : Int) : Option (Int) := (ck (z_r32 z4) (if (200 : Int) ≤ z4 then (some z6) else (ck (z_r64 z5) (ck (z_r32 (z_cmp z5 (0 : Int))) (if (z_cmp z5 (0 : Int)) = (0 : Int) then (some z6) else (ck (w_dv z6 z5) (bnd (z6 % z5) (fun (z11 : Int) => (bnd z5 (fun (z12 : Int) => (bnd z11 (fun (z13 : Int) => (bnd (z4 + (1 : Int)) (fun (z14 : Int) => (again9 z14 z13 z12)))))))))))))))
noncomputable def f_X3_greatestDivisor (x0 : Int) (x2 : Int) : Option (Int) := (bnd x0 (fun (z1 : Int) => (bnd x2 (fun (z2 : Int) => (bnd (0 : Int) (fun (z3 : Int) => (lq3 (B_X3_greatestDivisor_9) 1000 z3 z2 z1)))))))
abbrev rm_X3_greatestDivisor : Room := { frames := 0, cells := 0, slots := 0, locals := 0 }
set_option maxHeartbeats 8000000 in
set_option maxRecDepth 100000 in
theorem c_X3_greatestDivisor (l : Launch) (D : va_G) (G : Nat → ClassId) (sz : Nat) (x0 : Int) (x2 : Int) (r : Int) (hf : f_X3_greatestDivisor x0 x2 = some r) : Met l yX3_greatestDivisor wsX3_greatestDivisor rm_X3_greatestDivisor (pcG D G [.long (Int64.ofInt x0), .long (Int64.ofInt x2)] sz []) (qcL D G (Int64.ofInt r) [] (va_A [] sz)) 0 0 (va_A [] sz) := by
  refine Met.ofW (cc := cX3_greatestDivisor) (maxL := 11) (ret := (some .long)) (by decide) rfl ?_
  intro p e s m args below meth c s₁ B hml hv
  obtain ⟨rfl, hsz, hP, hK, hD0⟩ := hv
  have hx := B.exec
  have hb := B.bytes
  have hr := B.returns
  have hts := atoms_spec (ws := wsX3_greatestDivisor) B.pre
  have hown : s.vm.findClass RX3 = some m.cls := findClass_of_methodNamed B.named
  have hlocks := B.notSynchronized
  subst hsz
  have hD := hD0.self (sz := s.heap.size)
  generalize hAe : va_A [] s.heap.size = A at hD ⊢
  have hA : ∀ q : Nat, s.heap.size ≤ q → A q := fun q h => by rw [← hAe]; exact Or.inr h
  clear hAe hD0
  have hS : va_S A s.heap s.heap [] := va_S.rf
  have hl := lv_entry ([.long (Int64.ofInt x0), .long (Int64.ofInt x2)]) (n := 11) (Nat.le_of_ble_eq_true rfl)
  rw [lg_entry_eq]
  generalize (lg_sl ([.long (Int64.ofInt x0), .long (Int64.ofInt x2)]) ++ List.replicate (11 - (lg_sl ([.long (Int64.ofInt x0), .long (Int64.ofInt x2)])).length) Slot.unset).toArray = ls at hl ⊢
  have hl : lv_has ls 11 [(0, .long (Int64.ofInt x0)), (2, .long (Int64.ofInt x2))] := hl
  refine W_nameQ (fun Q hQ => ?_)
  obtain ⟨H, hH⟩ : ∃ H, H = s.heap := ⟨_, rfl⟩
  replace hS : va_S A s.heap H [] := by rw [hH]; exact hS
  replace hP : va_P D vwCl [] H := by rw [hH]; exact hP
  rw [← hH]
  clear hH
  unfold f_X3_greatestDivisor at hf
  refine lv_lload_n hx hb dX3_greatestDivisor_0 rfl (lv_at hl 0 rfl) ?_
  refine z_topl (fun z1 ez => ?_)
  replace hf := bnd_s hf ez
  clear ez
  refine lv_lstore (lv' := [(4, .long (Int64.ofInt z1)), (0, .long (Int64.ofInt x0)), (2, .long (Int64.ofInt x2))]) hx hb dX3_greatestDivisor_1 hl (by decide) rfl (fun ls hl => ?_)
  refine lv_lload_n hx hb dX3_greatestDivisor_3 rfl (lv_at hl 2 rfl) ?_
  refine z_topl (fun z2 ez => ?_)
  replace hf := bnd_s hf ez
  clear ez
  refine lv_lstore (lv' := [(6, .long (Int64.ofInt z2)), (4, .long (Int64.ofInt z1)), (0, .long (Int64.ofInt x0)), (2, .long (Int64.ofInt x2))]) hx hb dX3_greatestDivisor_4 hl (by decide) rfl (fun ls hl => ?_)
  refine lv_iconst (v := Int32.ofInt (0 : Int)) hx hb dX3_greatestDivisor_6 (by decide) ?_
  refine z_topi (fun z3 ez => ?_)
  replace hf := bnd_s hf ez
  clear ez
  refine lv_istore (lv' := [(8, .int (Int32.ofInt z3)), (6, .long (Int64.ofInt z2)), (4, .long (Int64.ofInt z1)), (0, .long (Int64.ofInt x0)), (2, .long (Int64.ofInt x2))]) hx hb dX3_greatestDivisor_7 hl (by decide) rfl (fun ls hl => ?_)
  have hq := lq3_i hf
  clear hf
  obtain ⟨B7, eB7, NB7, hf⟩ := hq
  have hB7 : ∀ (n : Nat) (z4 : Int) (z5 : Int) (z6 : Int) (ls : Array Slot) (H : Heap) (locs : List Loc), lv_has ls 11 [(8, .int (Int32.ofInt z4)), (6, .long (Int64.ofInt z5)), (4, .long (Int64.ofInt z6))] → va_P D vwCl [] H → va_D A [] → va_S A s.heap H locs → lq3 B7 n z4 z5 z6 = some r → W p l e rm_X3_greatestDivisor s m ([.long (Int64.ofInt x0), .long (Int64.ofInt x2)] : List Value).toArray below meth c H locs 0 0 Q (F0 m 9 ls []) := by
    clear hf hl hP hD hS
    intro n
    induction n with
    | zero =>
      intro z4 z5 z6 ls H locs hl hP hD hS hf
      exact (lq3_0 hf).elim
    | succ n ih9 =>
      intro z4 z5 z6 ls H locs hl hP hD hS hf
      replace hf := lq3_s eB7 hf
      unfold B_X3_greatestDivisor_9 at hf
      refine lv_iload hx hb dX3_greatestDivisor_9 (lv_at hl 0 rfl) ?_
      refine lv_sipush (v := Int32.ofInt (200 : Int)) hx hb dX3_greatestDivisor_11 (by decide) ?_
      have hr7 := ck_c hf
      replace hf := ck_r hf
      refine lv_icmp_ge (tgt := 45) hx hb dX3_greatestDivisor_14 (by decide) (fun cc => ?_) (fun cc => ?_)
      ·
        replace hf := ite_t ((z_le (by decide) hr7).mp cc) hf
        clear cc
        refine lv_lload hx hb dX3_greatestDivisor_45 (lv_at hl 2 rfl) ?_
        obtain rfl := ou1 hf
        rw [hQ]
        exact W.lret hx hb hr (fun t ht hW => ⟨⟨_, (), rfl, rfl, by rw [ht]; exact hP, va_K.moved hW.alike hK, hD⟩, hS.F ht⟩) hS.2.2 dX3_greatestDivisor_47
      ·
        replace hf := ite_f (fun h9 => cc ((z_le (by decide) hr7).mpr h9)) hf
        clear cc
        refine lv_lload hx hb dX3_greatestDivisor_17 (lv_at hl 1 rfl) ?_
        refine lv_lconst (v := Int64.ofInt (0 : Int)) hx hb dX3_greatestDivisor_19 (by decide) ?_
        have hr8 := ck_c hf
        replace hf := ck_r hf
        refine W.lcmp hx hb dX3_greatestDivisor_20 (z_ci (z_cmp_e hr8 (by decide)) ?_)
        have hr9 := ck_c hf
        replace hf := ck_r hf
        refine lv_if_eq (tgt := 45) hx hb dX3_greatestDivisor_21 (by decide) (fun cc => ?_) (fun cc => ?_)
        ·
          replace hf := ite_t ((z_eq0 hr9).mp cc) hf
          clear cc
          refine lv_lload hx hb dX3_greatestDivisor_45 (lv_at hl 2 rfl) ?_
          obtain rfl := ou1 hf
          rw [hQ]
          exact W.lret hx hb hr (fun t ht hW => ⟨⟨_, (), rfl, rfl, by rw [ht]; exact hP, va_K.moved hW.alike hK, hD⟩, hS.F ht⟩) hS.2.2 dX3_greatestDivisor_47
        ·
          replace hf := ite_f (fun h9 => cc ((z_eq0 hr9).mpr h9)) hf
          clear cc
          refine lv_lload hx hb dX3_greatestDivisor_24 (lv_at hl 2 rfl) ?_
          refine lv_lload hx hb dX3_greatestDivisor_26 (lv_at hl 1 rfl) ?_
          have hc := ck_c hf
          replace hf := ck_r hf
          refine lv_lrem hx hb dX3_greatestDivisor_28 (w_nz hc) (z_cl (w_rem hc) ?_)
          clear hc
          refine z_topl (fun z11 ez => ?_)
          replace hf := bnd_s hf ez
          clear ez
          refine lv_lstore (lv' := [(9, .long (Int64.ofInt z11)), (8, .int (Int32.ofInt z4)), (6, .long (Int64.ofInt z5)), (4, .long (Int64.ofInt z6))]) hx hb dX3_greatestDivisor_29 hl (by decide) rfl (fun ls hl => ?_)
          refine lv_lload hx hb dX3_greatestDivisor_31 (lv_at hl 2 rfl) ?_
          refine z_topl (fun z12 ez => ?_)
          replace hf := bnd_s hf ez
          clear ez
          refine lv_lstore (lv' := [(4, .long (Int64.ofInt z12)), (9, .long (Int64.ofInt z11)), (8, .int (Int32.ofInt z4)), (6, .long (Int64.ofInt z5))]) hx hb dX3_greatestDivisor_33 hl (by decide) rfl (fun ls hl => ?_)
          refine lv_lload hx hb dX3_greatestDivisor_35 (lv_at hl 1 rfl) ?_
          refine z_topl (fun z13 ez => ?_)
          replace hf := bnd_s hf ez
          clear ez
          refine lv_lstore (lv' := [(6, .long (Int64.ofInt z13)), (4, .long (Int64.ofInt z12)), (9, .long (Int64.ofInt z11)), (8, .int (Int32.ofInt z4))]) hx hb dX3_greatestDivisor_37 hl (by decide) rfl (fun ls hl => ?_)
          obtain ⟨z14, ez⟩ : ∃ y : Int, y = (z4 + (1 : Int)) := ⟨_, rfl⟩
          replace hf := bnd_s hf ez
          refine lv_iinc (v := Int32.ofInt z14) (lv' := [(8, .int (Int32.ofInt z14)), (6, .long (Int64.ofInt z13)), (4, .long (Int64.ofInt z12)), (9, .long (Int64.ofInt z11))]) hx hb dX3_greatestDivisor_39 hl (k := 3) rfl (by rw [ez]; exact (Int32.ofInt_add _ _).symm) (by decide) rfl (fun ls hl => ?_)
          clear ez
          refine lv_goto (tgt := 9) hx hb dX3_greatestDivisor_42 (by decide) ?_
          exact ih9 _ _ _ _ _ _ (lv_sub hl [0, 1, 2] rfl) hP hD hS hf
  exact hB7 _ _ _ _ _ _ _ (lv_sub hl [0, 1, 2] rfl) hP hD hS hf

noncomputable def f_X3_part (x0 : Int) (x2 : Int) (x4 : Int) : Option (Int) := (bd1 (f_X3_greatestDivisor x0 x2) (fun (z1 : Int) => (bnd z1 (fun (z2 : Int) => (ck (z_r64 z2) (ck (z_r32 (z_cmp z2 (0 : Int))) (if (z_cmp z2 (0 : Int)) = (0 : Int) then (ck (z_r32 x4) (some x4)) else (ck (z_r32 x4) (if x4 = (0 : Int) then (ck (w_dv x0 z2) (some (x0 / z2))) else (ck (w_dv x2 z2) (some (x2 / z2))))))))))))
abbrev rm_X3_part : Room := { frames := 1, cells := 0, slots := 0, locals := 30 }
set_option maxHeartbeats 8000000 in
set_option maxRecDepth 100000 in
theorem c_X3_part (l : Launch) (D : va_G) (G : Nat → ClassId) (sz : Nat) (x0 : Int) (x2 : Int) (x4 : Int) (r : Int) (hf : f_X3_part x0 x2 x4 = some r) : Met l yX3_part wsX3_part rm_X3_part (pcG D G [.long (Int64.ofInt x0), .long (Int64.ofInt x2), .int (Int32.ofInt x4)] sz []) (qcL D G (Int64.ofInt r) [] (va_A [] sz)) 0 0 (va_A [] sz) := by
  refine Met.ofW (cc := cX3_part) (maxL := 7) (ret := (some .long)) (by decide) rfl ?_
  intro p e s m args below meth c s₁ B hml hv
  obtain ⟨rfl, hsz, hP, hK, hD0⟩ := hv
  have hx := B.exec
  have hb := B.bytes
  have hr := B.returns
  have hts := atoms_spec (ws := wsX3_part) B.pre
  have hown : s.vm.findClass RX3 = some m.cls := findClass_of_methodNamed B.named
  have hlocks := B.notSynchronized
  subst hsz
  have hD := hD0.self (sz := s.heap.size)
  generalize hAe : va_A [] s.heap.size = A at hD ⊢
  have hA : ∀ q : Nat, s.heap.size ≤ q → A q := fun q h => by rw [← hAe]; exact Or.inr h
  clear hAe hD0
  have hS : va_S A s.heap s.heap [] := va_S.rf
  have hl := lv_entry ([.long (Int64.ofInt x0), .long (Int64.ofInt x2), .int (Int32.ofInt x4)]) (n := 7) (Nat.le_of_ble_eq_true rfl)
  rw [lg_entry_eq]
  generalize (lg_sl ([.long (Int64.ofInt x0), .long (Int64.ofInt x2), .int (Int32.ofInt x4)]) ++ List.replicate (7 - (lg_sl ([.long (Int64.ofInt x0), .long (Int64.ofInt x2), .int (Int32.ofInt x4)])).length) Slot.unset).toArray = ls at hl ⊢
  have hl : lv_has ls 7 [(0, .long (Int64.ofInt x0)), (2, .long (Int64.ofInt x2)), (4, .int (Int32.ofInt x4))] := hl
  refine W_nameQ (fun Q hQ => ?_)
  obtain ⟨H, hH⟩ : ∃ H, H = s.heap := ⟨_, rfl⟩
  replace hS : va_S A s.heap H [] := by rw [hH]; exact hS
  replace hP : va_P D vwCl [] H := by rw [hH]; exact hP
  rw [← hH]
  clear hH
  unfold f_X3_part at hf
  refine lv_lload_n hx hb dX3_part_0 rfl (lv_at hl 0 rfl) ?_
  refine lv_lload_n hx hb dX3_part_1 rfl (lv_at hl 1 rfl) ?_
  have hq := bd1_s hf
  clear hf
  obtain ⟨z1, hcall, hf⟩ := hq
  refine gnL (va_runS (As := [.long (Int64.ofInt x0), .long (Int64.ofInt x2)]) (rest := []) ⟨hx, hb, hml, hown, hts⟩ (c_X3_greatestDivisor (l := l) (D := D) (G := G) (sz := H.size) (x0 := x0) (x2 := x2) (r := z1) (hf := hcall)) (va_cwS 2 hts gX3_part_X3_greatestDivisor rfl rfl rfl (by decide +kernel) ⟨Nat.le_of_ble_eq_true rfl, Nat.le_of_ble_eq_true rfl⟩) (preG_S (hP.sub [] rfl) (hD.sub [] rfl rfl) hK) rfl rfl hl.1 rfl (lv_room (Nat.le_of_ble_eq_true rfl)) dX3_part_2 ⟨Nat.le_of_ble_eq_true rfl, Nat.le_of_ble_eq_true rfl⟩) hP hD hS hA [] rfl (fun H locs hP hD hS => ?_)
  clear hcall
  refine z_topl (fun z2 ez => ?_)
  replace hf := bnd_s hf ez
  clear ez
  refine lv_lstore (lv' := [(5, .long (Int64.ofInt z2)), (0, .long (Int64.ofInt x0)), (2, .long (Int64.ofInt x2)), (4, .int (Int32.ofInt x4))]) hx hb dX3_part_5 hl (by decide) rfl (fun ls hl => ?_)
  refine lv_lload hx hb dX3_part_7 (lv_at hl 0 rfl) ?_
  refine lv_lconst (v := Int64.ofInt (0 : Int)) hx hb dX3_part_9 (by decide) ?_
  have hr2 := ck_c hf
  replace hf := ck_r hf
  refine W.lcmp hx hb dX3_part_10 (z_ci (z_cmp_e hr2 (by decide)) ?_)
  have hr3 := ck_c hf
  replace hf := ck_r hf
  refine lv_if_ne (tgt := 18) hx hb dX3_part_11 (by decide) (fun cc => ?_) (fun cc => ?_)
  ·
    replace hf := ite_f (fun h9 => cc ((z_eq0 hr3).mpr h9)) hf
    clear cc
    refine lv_iload hx hb dX3_part_18 (lv_at hl 3 rfl) ?_
    have hr4 := ck_c hf
    replace hf := ck_r hf
    refine lv_if_ne (tgt := 30) hx hb dX3_part_20 (by decide) (fun cc => ?_) (fun cc => ?_)
    ·
      replace hf := ite_f (fun h9 => cc ((z_eq0 hr4).mpr h9)) hf
      clear cc
      refine lv_lload_n hx hb dX3_part_30 rfl (lv_at hl 2 rfl) ?_
      refine lv_lload hx hb dX3_part_31 (lv_at hl 0 rfl) ?_
      have hc := ck_c hf
      replace hf := ck_r hf
      refine lv_ldiv hx hb dX3_part_33 (w_nz hc) (z_cl (w_div hc) ?_)
      clear hc
      obtain rfl := ou1 hf
      rw [hQ]
      exact W.lret hx hb hr (fun t ht hW => ⟨⟨_, (), rfl, rfl, by rw [ht]; exact hP, va_K.moved hW.alike hK, hD⟩, hS.F ht⟩) hS.2.2 dX3_part_34
    ·
      replace hf := ite_t ((z_eq0 hr4).mp cc) hf
      clear cc
      refine lv_lload_n hx hb dX3_part_23 rfl (lv_at hl 1 rfl) ?_
      refine lv_lload hx hb dX3_part_24 (lv_at hl 0 rfl) ?_
      have hc := ck_c hf
      replace hf := ck_r hf
      refine lv_ldiv hx hb dX3_part_26 (w_nz hc) (z_cl (w_div hc) ?_)
      clear hc
      refine lv_goto (tgt := 34) hx hb dX3_part_27 (by decide) ?_
      obtain rfl := ou1 hf
      rw [hQ]
      exact W.lret hx hb hr (fun t ht hW => ⟨⟨_, (), rfl, rfl, by rw [ht]; exact hP, va_K.moved hW.alike hK, hD⟩, hS.F ht⟩) hS.2.2 dX3_part_34
  ·
    replace hf := ite_t ((z_eq0 hr3).mp cc) hf
    clear cc
    refine lv_iload hx hb dX3_part_14 (lv_at hl 3 rfl) ?_
    have hr5 := ck_c hf
    replace hf := ck_r hf
    refine lv_i2l (v := Int64.ofInt x4) hx hb dX3_part_16 (z_i2l hr5) ?_
    obtain rfl := ou1 hf
    rw [hQ]
    exact W.lret hx hb hr (fun t ht hW => ⟨⟨_, (), rfl, rfl, by rw [ht]; exact hP, va_K.moved hW.alike hK, hD⟩, hS.F ht⟩) hS.2.2 dX3_part_17

noncomputable def B_X4_stirsBringing_5 (i_p0_kitchen_rules_stirs : Int) (v_p0_kitchen_rules_after : (Int → Int)) (x1 : Int) (x2 : Int) (again5 : Int → Int → Option (Int)) (z3 : Int) (z4 : Int) : Option (Int) := (ck (z_r32 z3) (ck (z_r32 i_p0_kitchen_rules_stirs) (if i_p0_kitchen_rules_stirs ≤ z3 then (some z4) else (bd1 (f_X6_placeAfter v_p0_kitchen_rules_after z3 x1) (fun (z8 : Int) => (ck (z_r32 z8) (ck (z_r32 x2) (if z8 = x2 then (bnd (z_or z4 (z_shl (1 : Int) z3)) (fun (z12 : Int) => (bnd (z3 + (1 : Int)) (fun (z13 : Int) => (again5 z13 z12))))) else (bnd (z3 + (1 : Int)) (fun (z11 : Int) => (again5 z11 z4)))))))))))
noncomputable def f_X4_stirsBringing (i_p0_kitchen_rules_stirs : Int) (v_p0_kitchen_rules_after : (Int → Int)) (x1 : Int) (x2 : Int) : Option (Int) := (bnd (0 : Int) (fun (z1 : Int) => (bnd (0 : Int) (fun (z2 : Int) => (lq2 (B_X4_stirsBringing_5 i_p0_kitchen_rules_stirs v_p0_kitchen_rules_after x1 x2) 1000 z2 z1)))))
abbrev rm_X4_stirsBringing : Room := { frames := 1, cells := 0, slots := 0, locals := 22 }
theorem inX4_stirsBringing_X4 : ∀ w ∈ wsX40, w ∈ wsX4_stirsBringing := by first | exact fun w h => List.mem_cons_of_mem _ (List.mem_append_left _ (List.mem_append_left _ (List.mem_append_right _ h))) | decide +kernel
theorem mwX4_stirsBringing_1 : Cond.fieldLink RX4 15 "LadleKings$Past" "kitchen" "LLadleKings$Kitchen;" ∈ wsX4_stirsBringing := by first | exact List.mem_of_getElem? (i := 1) rfl | decide +kernel
theorem inX4_stirsBringing_X2 : ∀ w ∈ wsX20, w ∈ wsX4_stirsBringing := by first | exact fun w h => List.mem_cons_of_mem _ (List.mem_append_left _ (List.mem_append_right _ h)) | decide +kernel
theorem mwX4_stirsBringing_3 : Cond.fieldLink RX4 57 "LadleKings$Kitchen" "rules" "LLadleKings$Rules;" ∈ wsX4_stirsBringing := by first | exact List.mem_of_getElem? (i := 2) rfl | decide +kernel
theorem inX4_stirsBringing_X6 : ∀ w ∈ wsX60, w ∈ wsX4_stirsBringing := by first | exact fun w h => List.mem_cons_of_mem _ (List.mem_append_right _ h) | decide +kernel
theorem mwX4_stirsBringing_5 : Cond.fieldLink RX4 61 "LadleKings$Rules" "stirs" "I" ∈ wsX4_stirsBringing := by first | exact List.mem_of_getElem? (i := 3) rfl | decide +kernel
set_option maxHeartbeats 8000000 in
set_option maxRecDepth 100000 in
theorem c_X4_stirsBringing (l : Launch) (D : va_G) (G : Nat → ClassId) (sz : Nat) (a_p0 : Nat) (a_p0_kitchen : Nat) (a_p0_fitting : Nat) (a_p0_kitchen_rules : Nat) (a_p0_kitchen_state : Nat) (a_p0_kitchen_places : Nat) (a_p0_kitchen_holders : Nat) (a_p0_kitchen_stirred : Nat) (a_p0_kitchen_rules_need : Nat) (a_p0_kitchen_rules_kind : Nat) (a_p0_kitchen_rules_first : Nat) (a_p0_kitchen_rules_second : Nat) (a_p0_kitchen_rules_after : Nat) (i_p0_kitchen_rules_seats : Int) (i_p0_kitchen_rules_stirs : Int) (v_p0_kitchen_rules_after : (Int → Int)) (x1 : Int) (x2 : Int) (r : Int) (hf : f_X4_stirsBringing i_p0_kitchen_rules_stirs v_p0_kitchen_rules_after x1 x2 = some r) : Met l yX4_stirsBringing wsX4_stirsBringing rm_X4_stirsBringing (pcG D G [.ref a_p0, .int (Int32.ofInt x1), .int (Int32.ofInt x2)] sz [(a_p0, .inr (4, [.ref a_p0_kitchen, .ref a_p0_fitting])), (a_p0_kitchen, .inr (2, [.ref a_p0_kitchen_rules, .ref a_p0_kitchen_state, .ref a_p0_kitchen_places, .ref a_p0_kitchen_holders, .ref a_p0_kitchen_stirred])), (a_p0_kitchen_rules, .inr (6, [.int (Int32.ofInt i_p0_kitchen_rules_seats), .int (Int32.ofInt i_p0_kitchen_rules_stirs), .ref a_p0_kitchen_rules_need, .ref a_p0_kitchen_rules_kind, .ref a_p0_kitchen_rules_first, .ref a_p0_kitchen_rules_second, .ref a_p0_kitchen_rules_after])), (a_p0_kitchen_rules_after, .inl (G 1, 35, .inl (zA v_p0_kitchen_rules_after)))]) (qcI D G (Int32.ofInt r) [(a_p0, .inr (4, [.ref a_p0_kitchen, .ref a_p0_fitting])), (a_p0_kitchen, .inr (2, [.ref a_p0_kitchen_rules, .ref a_p0_kitchen_state, .ref a_p0_kitchen_places, .ref a_p0_kitchen_holders, .ref a_p0_kitchen_stirred])), (a_p0_kitchen_rules, .inr (6, [.int (Int32.ofInt i_p0_kitchen_rules_seats), .int (Int32.ofInt i_p0_kitchen_rules_stirs), .ref a_p0_kitchen_rules_need, .ref a_p0_kitchen_rules_kind, .ref a_p0_kitchen_rules_first, .ref a_p0_kitchen_rules_second, .ref a_p0_kitchen_rules_after])), (a_p0_kitchen_rules_after, .inl (G 1, 35, .inl (zA v_p0_kitchen_rules_after)))] (va_A [(a_p0, .inr (4, [.ref a_p0_kitchen, .ref a_p0_fitting])), (a_p0_kitchen, .inr (2, [.ref a_p0_kitchen_rules, .ref a_p0_kitchen_state, .ref a_p0_kitchen_places, .ref a_p0_kitchen_holders, .ref a_p0_kitchen_stirred])), (a_p0_kitchen_rules, .inr (6, [.int (Int32.ofInt i_p0_kitchen_rules_seats), .int (Int32.ofInt i_p0_kitchen_rules_stirs), .ref a_p0_kitchen_rules_need, .ref a_p0_kitchen_rules_kind, .ref a_p0_kitchen_rules_first, .ref a_p0_kitchen_rules_second, .ref a_p0_kitchen_rules_after])), (a_p0_kitchen_rules_after, .inl (G 1, 35, .inl (zA v_p0_kitchen_rules_after)))] sz)) 0 0 (va_A [(a_p0, .inr (4, [.ref a_p0_kitchen, .ref a_p0_fitting])), (a_p0_kitchen, .inr (2, [.ref a_p0_kitchen_rules, .ref a_p0_kitchen_state, .ref a_p0_kitchen_places, .ref a_p0_kitchen_holders, .ref a_p0_kitchen_stirred])), (a_p0_kitchen_rules, .inr (6, [.int (Int32.ofInt i_p0_kitchen_rules_seats), .int (Int32.ofInt i_p0_kitchen_rules_stirs), .ref a_p0_kitchen_rules_need, .ref a_p0_kitchen_rules_kind, .ref a_p0_kitchen_rules_first, .ref a_p0_kitchen_rules_second, .ref a_p0_kitchen_rules_after])), (a_p0_kitchen_rules_after, .inl (G 1, 35, .inl (zA v_p0_kitchen_rules_after)))] sz) := by
  refine Met.ofW (cc := cX4_stirsBringing) (maxL := 5) (ret := (some .int)) (by decide) rfl ?_
  intro p e s m args below meth c s₁ B hml hv
  obtain ⟨rfl, hsz, hP, hK, hD0⟩ := hv
  have hx := B.exec
  have hb := B.bytes
  have hr := B.returns
  have hts := atoms_spec (ws := wsX4_stirsBringing) B.pre
  have hown : s.vm.findClass RX4 = some m.cls := findClass_of_methodNamed B.named
  have hlocks := B.notSynchronized
  subst hsz
  have hD := hD0.self (sz := s.heap.size)
  generalize hAe : va_A [(a_p0, .inr (4, [.ref a_p0_kitchen, .ref a_p0_fitting])), (a_p0_kitchen, .inr (2, [.ref a_p0_kitchen_rules, .ref a_p0_kitchen_state, .ref a_p0_kitchen_places, .ref a_p0_kitchen_holders, .ref a_p0_kitchen_stirred])), (a_p0_kitchen_rules, .inr (6, [.int (Int32.ofInt i_p0_kitchen_rules_seats), .int (Int32.ofInt i_p0_kitchen_rules_stirs), .ref a_p0_kitchen_rules_need, .ref a_p0_kitchen_rules_kind, .ref a_p0_kitchen_rules_first, .ref a_p0_kitchen_rules_second, .ref a_p0_kitchen_rules_after])), (a_p0_kitchen_rules_after, .inl (G 1, 35, .inl (zA v_p0_kitchen_rules_after)))] s.heap.size = A at hD ⊢
  have hA : ∀ q : Nat, s.heap.size ≤ q → A q := fun q h => by rw [← hAe]; exact Or.inr h
  clear hAe hD0
  have hS : va_S A s.heap s.heap [] := va_S.rf
  have hl := lv_entry ([.ref a_p0, .int (Int32.ofInt x1), .int (Int32.ofInt x2)]) (n := 5) (Nat.le_of_ble_eq_true rfl)
  rw [lg_entry_eq]
  generalize (lg_sl ([.ref a_p0, .int (Int32.ofInt x1), .int (Int32.ofInt x2)]) ++ List.replicate (5 - (lg_sl ([.ref a_p0, .int (Int32.ofInt x1), .int (Int32.ofInt x2)])).length) Slot.unset).toArray = ls at hl ⊢
  have hl : lv_has ls 5 [(0, .ref a_p0), (1, .int (Int32.ofInt x1)), (2, .int (Int32.ofInt x2))] := hl
  refine W_nameQ (fun Q hQ => ?_)
  obtain ⟨H, hH⟩ : ∃ H, H = s.heap := ⟨_, rfl⟩
  replace hS : va_S A s.heap H [] := by rw [hH]; exact hS
  replace hP : va_P D vwCl [(a_p0, .inr (4, [.ref a_p0_kitchen, .ref a_p0_fitting])), (a_p0_kitchen, .inr (2, [.ref a_p0_kitchen_rules, .ref a_p0_kitchen_state, .ref a_p0_kitchen_places, .ref a_p0_kitchen_holders, .ref a_p0_kitchen_stirred])), (a_p0_kitchen_rules, .inr (6, [.int (Int32.ofInt i_p0_kitchen_rules_seats), .int (Int32.ofInt i_p0_kitchen_rules_stirs), .ref a_p0_kitchen_rules_need, .ref a_p0_kitchen_rules_kind, .ref a_p0_kitchen_rules_first, .ref a_p0_kitchen_rules_second, .ref a_p0_kitchen_rules_after])), (a_p0_kitchen_rules_after, .inl (G 1, 35, .inl (zA v_p0_kitchen_rules_after)))] H := by rw [hH]; exact hP
  rw [← hH]
  clear hH
  unfold f_X4_stirsBringing at hf
  refine lv_iconst (v := Int32.ofInt (0 : Int)) hx hb dX4_stirsBringing_0 (by decide) ?_
  refine z_topi (fun z1 ez => ?_)
  replace hf := bnd_s hf ez
  clear ez
  refine lv_istore_n (lv' := [(3, .int (Int32.ofInt z1)), (0, .ref a_p0), (1, .int (Int32.ofInt x1)), (2, .int (Int32.ofInt x2))]) hx hb dX4_stirsBringing_1 rfl hl (by decide) rfl (fun ls hl => ?_)
  refine lv_iconst (v := Int32.ofInt (0 : Int)) hx hb dX4_stirsBringing_2 (by decide) ?_
  refine z_topi (fun z2 ez => ?_)
  replace hf := bnd_s hf ez
  clear ez
  refine lv_istore (lv' := [(4, .int (Int32.ofInt z2)), (3, .int (Int32.ofInt z1)), (0, .ref a_p0), (1, .int (Int32.ofInt x1)), (2, .int (Int32.ofInt x2))]) hx hb dX4_stirsBringing_3 hl (by decide) rfl (fun ls hl => ?_)
  have hq := lq2_i hf
  clear hf
  obtain ⟨B5, eB5, NB5, hf⟩ := hq
  have hB5 : ∀ (n : Nat) (z3 : Int) (z4 : Int) (ls : Array Slot) (H : Heap) (locs : List Loc), lv_has ls 5 [(4, .int (Int32.ofInt z3)), (3, .int (Int32.ofInt z4)), (0, .ref a_p0), (1, .int (Int32.ofInt x1)), (2, .int (Int32.ofInt x2))] → va_P D vwCl [(a_p0, .inr (4, [.ref a_p0_kitchen, .ref a_p0_fitting])), (a_p0_kitchen, .inr (2, [.ref a_p0_kitchen_rules, .ref a_p0_kitchen_state, .ref a_p0_kitchen_places, .ref a_p0_kitchen_holders, .ref a_p0_kitchen_stirred])), (a_p0_kitchen_rules, .inr (6, [.int (Int32.ofInt i_p0_kitchen_rules_seats), .int (Int32.ofInt i_p0_kitchen_rules_stirs), .ref a_p0_kitchen_rules_need, .ref a_p0_kitchen_rules_kind, .ref a_p0_kitchen_rules_first, .ref a_p0_kitchen_rules_second, .ref a_p0_kitchen_rules_after])), (a_p0_kitchen_rules_after, .inl (G 1, 35, .inl (zA v_p0_kitchen_rules_after)))] H → va_D A [(a_p0, .inr (4, [.ref a_p0_kitchen, .ref a_p0_fitting])), (a_p0_kitchen, .inr (2, [.ref a_p0_kitchen_rules, .ref a_p0_kitchen_state, .ref a_p0_kitchen_places, .ref a_p0_kitchen_holders, .ref a_p0_kitchen_stirred])), (a_p0_kitchen_rules, .inr (6, [.int (Int32.ofInt i_p0_kitchen_rules_seats), .int (Int32.ofInt i_p0_kitchen_rules_stirs), .ref a_p0_kitchen_rules_need, .ref a_p0_kitchen_rules_kind, .ref a_p0_kitchen_rules_first, .ref a_p0_kitchen_rules_second, .ref a_p0_kitchen_rules_after])), (a_p0_kitchen_rules_after, .inl (G 1, 35, .inl (zA v_p0_kitchen_rules_after)))] → va_S A s.heap H locs → lq2 B5 n z3 z4 = some r → W p l e rm_X4_stirsBringing s m ([.ref a_p0, .int (Int32.ofInt x1), .int (Int32.ofInt x2)] : List Value).toArray below meth c H locs 0 0 Q (F0 m 5 ls []) := by
    clear hf hl hP hD hS
    intro n
    induction n with
    | zero =>
      intro z3 z4 ls H locs hl hP hD hS hf
      exact (lq2_0 hf).elim
    | succ n ih5 =>
      intro z3 z4 ls H locs hl hP hD hS hf
      replace hf := lq2_s eB5 hf
      unfold B_X4_stirsBringing_5 at hf
      refine lv_iload hx hb dX4_stirsBringing_5 (lv_at hl 0 rfl) ?_
      refine lv_aload_n hx hb dX4_stirsBringing_7 rfl (lv_at hl 2 rfl) ?_
      refine va_get (D := D) (ci := 4) (v := .ref a_p0_kitchen) (C := RX4) (T := TX4) (N := 2) hx hb hts inX4_stirsBringing_X4 hown hK hP 0 rfl rfl 0 (by decide) (hts _ mwX4_stirsBringing_1) (fun _ h9 => h9) rfl dX4_stirsBringing_8 ?_
      refine va_get (D := D) (ci := 2) (v := .ref a_p0_kitchen_rules) (C := RX2) (T := TX2) (N := 5) hx hb hts inX4_stirsBringing_X2 hown hK hP 1 rfl rfl 0 (by decide) (hts _ mwX4_stirsBringing_3) (fun _ h9 => h9) rfl dX4_stirsBringing_11 ?_
      refine va_get (D := D) (ci := 6) (v := .int (Int32.ofInt i_p0_kitchen_rules_stirs)) (C := RX6) (T := TX6) (N := 7) hx hb hts inX4_stirsBringing_X6 hown hK hP 2 rfl rfl 1 (by decide) (hts _ mwX4_stirsBringing_5) (fun _ h9 => h9) rfl dX4_stirsBringing_14 ?_
      have hr5 := ck_c hf
      replace hf := ck_r hf
      have hr6 := ck_c hf
      replace hf := ck_r hf
      refine lv_icmp_ge (tgt := 50) hx hb dX4_stirsBringing_17 (by decide) (fun cc => ?_) (fun cc => ?_)
      ·
        replace hf := ite_t ((z_le hr6 hr5).mp cc) hf
        clear cc
        refine lv_iload_n hx hb dX4_stirsBringing_50 rfl (lv_at hl 1 rfl) ?_
        obtain rfl := ou1 hf
        rw [hQ]
        exact W.iret hx hb hr (fun t ht hW => ⟨⟨_, (), rfl, rfl, by rw [ht]; exact hP, va_K.moved hW.alike hK, hD⟩, hS.F ht⟩) hS.2.2 dX4_stirsBringing_51
      ·
        replace hf := ite_f (fun h9 => cc ((z_le hr6 hr5).mpr h9)) hf
        clear cc
        refine lv_aload_n hx hb dX4_stirsBringing_20 rfl (lv_at hl 2 rfl) ?_
        refine va_get (D := D) (ci := 4) (v := .ref a_p0_kitchen) (C := RX4) (T := TX4) (N := 2) hx hb hts inX4_stirsBringing_X4 hown hK hP 0 rfl rfl 0 (by decide) (hts _ mwX4_stirsBringing_1) (fun _ h9 => h9) rfl dX4_stirsBringing_21 ?_
        refine va_get (D := D) (ci := 2) (v := .ref a_p0_kitchen_rules) (C := RX2) (T := TX2) (N := 5) hx hb hts inX4_stirsBringing_X2 hown hK hP 1 rfl rfl 0 (by decide) (hts _ mwX4_stirsBringing_3) (fun _ h9 => h9) rfl dX4_stirsBringing_24 ?_
        refine lv_iload hx hb dX4_stirsBringing_27 (lv_at hl 0 rfl) ?_
        refine lv_iload_n hx hb dX4_stirsBringing_29 rfl (lv_at hl 3 rfl) ?_
        have hq := bd1_s hf
        clear hf
        obtain ⟨z8, hcall, hf⟩ := hq
        refine gnI (va_runV (As := [.int (Int32.ofInt z3), .int (Int32.ofInt x1)]) (rest := []) ⟨hx, hb, hml, hown, hts⟩ (c_X6_placeAfter (l := l) (D := D) (G := G) (sz := H.size) (a_p0 := a_p0_kitchen_rules) (a_p0_need := a_p0_kitchen_rules_need) (a_p0_kind := a_p0_kitchen_rules_kind) (a_p0_first := a_p0_kitchen_rules_first) (a_p0_second := a_p0_kitchen_rules_second) (a_p0_after := a_p0_kitchen_rules_after) (i_p0_seats := i_p0_kitchen_rules_seats) (i_p0_stirs := i_p0_kitchen_rules_stirs) (v_p0_after := v_p0_kitchen_rules_after) (x1 := z3) (x2 := x1) (r := z8) (hf := hcall)) (cwV 2 hts gX4_stirsBringing_X6_placeAfter rfl rfl rfl hdV_yX6_placeAfter_RX6 ⟨Nat.le_of_ble_eq_true rfl, Nat.le_of_ble_eq_true rfl⟩) (preG_V (ci := 6) (q := (RX6, TX6, 7)) (hP.sub [2, 3] rfl) (hD.sub [2, 3] rfl rfl) hK rfl rfl) rfl rfl hl.1 rfl (lv_room (Nat.le_of_ble_eq_true rfl)) dX4_stirsBringing_30 ⟨Nat.le_of_ble_eq_true rfl, Nat.le_of_ble_eq_true rfl⟩) hP hD hS hA [2, 3] rfl (fun H locs hP hD hS => ?_)
        clear hcall
        refine lv_iload_n hx hb dX4_stirsBringing_33 rfl (lv_at hl 4 rfl) ?_
        have hr8 := ck_c hf
        replace hf := ck_r hf
        have hr9 := ck_c hf
        replace hf := ck_r hf
        refine lv_icmp_ne (tgt := 44) hx hb dX4_stirsBringing_34 (by decide) (fun cc => ?_) (fun cc => ?_)
        ·
          replace hf := ite_f (fun h9 => cc ((z_eq hr8 hr9).mpr h9)) hf
          clear cc
          obtain ⟨z11, ez⟩ : ∃ y : Int, y = (z3 + (1 : Int)) := ⟨_, rfl⟩
          replace hf := bnd_s hf ez
          refine lv_iinc (v := Int32.ofInt z11) (lv' := [(4, .int (Int32.ofInt z11)), (3, .int (Int32.ofInt z4)), (0, .ref a_p0), (1, .int (Int32.ofInt x1)), (2, .int (Int32.ofInt x2))]) hx hb dX4_stirsBringing_44 hl (k := 0) rfl (by rw [ez]; exact (Int32.ofInt_add _ _).symm) (by decide) rfl (fun ls hl => ?_)
          clear ez
          refine lv_goto (tgt := 5) hx hb dX4_stirsBringing_47 (by decide) ?_
          exact ih5 _ _ _ _ _ (lv_sub hl [0, 1, 2, 3, 4] rfl) hP hD hS hf
        ·
          replace hf := ite_t ((z_eq hr8 hr9).mp cc) hf
          clear cc
          refine lv_iload_n hx hb dX4_stirsBringing_37 rfl (lv_at hl 1 rfl) ?_
          refine lv_iconst (v := Int32.ofInt (1 : Int)) hx hb dX4_stirsBringing_38 (by decide) ?_
          refine lv_iload hx hb dX4_stirsBringing_39 (lv_at hl 0 rfl) ?_
          refine lv_ishl hx hb dX4_stirsBringing_41 (z_ci (z_shl_e (1 : Int) z3) ?_)
          refine lv_ior hx hb dX4_stirsBringing_42 (z_ci (z_or_e z4 (z_shl (1 : Int) z3)) ?_)
          refine z_topi (fun z12 ez => ?_)
          replace hf := bnd_s hf ez
          clear ez
          refine lv_istore_n (lv' := [(3, .int (Int32.ofInt z12)), (4, .int (Int32.ofInt z3)), (0, .ref a_p0), (1, .int (Int32.ofInt x1)), (2, .int (Int32.ofInt x2))]) hx hb dX4_stirsBringing_43 rfl hl (by decide) rfl (fun ls hl => ?_)
          obtain ⟨z13, ez⟩ : ∃ y : Int, y = (z3 + (1 : Int)) := ⟨_, rfl⟩
          replace hf := bnd_s hf ez
          refine lv_iinc (v := Int32.ofInt z13) (lv' := [(4, .int (Int32.ofInt z13)), (3, .int (Int32.ofInt z12)), (0, .ref a_p0), (1, .int (Int32.ofInt x1)), (2, .int (Int32.ofInt x2))]) hx hb dX4_stirsBringing_44 hl (k := 1) rfl (by rw [ez]; exact (Int32.ofInt_add _ _).symm) (by decide) rfl (fun ls hl => ?_)
          clear ez
          refine lv_goto (tgt := 5) hx hb dX4_stirsBringing_47 (by decide) ?_
          exact ih5 _ _ _ _ _ (lv_sub hl [0, 1, 2, 3, 4] rfl) hP hD hS hf
  exact hB5 _ _ _ _ _ _ (lv_sub hl [0, 1, 2, 3, 4] rfl) hP hD hS hf

noncomputable def f_J6_bitCount_0f7a4 (x0 : Int) : Option (Int) := (bnd (x0 - (z_and (z_ushr x0 (1 : Int)) (1431655765 : Int))) (fun (z1 : Int) => (bnd ((z_and z1 (858993459 : Int)) + (z_and (z_ushr z1 (2 : Int)) (858993459 : Int))) (fun (z2 : Int) => (bnd (z_and (z2 + (z_ushr z2 (4 : Int))) (252645135 : Int)) (fun (z3 : Int) => (bnd (z3 + (z_ushr z3 (8 : Int))) (fun (z4 : Int) => (bnd (z4 + (z_ushr z4 (16 : Int))) (fun (z5 : Int) => (some (z_and z5 (63 : Int)))))))))))))
abbrev rm_J6_bitCount_0f7a4 : Room := { frames := 0, cells := 0, slots := 0, locals := 0 }
theorem mwJ6_bitCount_0f7a4_0 : Cond.constant RJ6 265 (1431655765) ∈ wsJ6_bitCount_0f7a4 := by first | exact List.mem_of_getElem? (i := 1) rfl | decide +kernel
theorem mwJ6_bitCount_0f7a4_1 : Cond.constant RJ6 266 (858993459) ∈ wsJ6_bitCount_0f7a4 := by first | exact List.mem_of_getElem? (i := 2) rfl | decide +kernel
theorem mwJ6_bitCount_0f7a4_2 : Cond.constant RJ6 267 (252645135) ∈ wsJ6_bitCount_0f7a4 := by first | exact List.mem_of_getElem? (i := 3) rfl | decide +kernel
set_option maxHeartbeats 8000000 in
set_option maxRecDepth 100000 in
theorem c_J6_bitCount_0f7a4 (l : Launch) (D : va_G) (G : Nat → ClassId) (sz : Nat) (x0 : Int) (r : Int) (hf : f_J6_bitCount_0f7a4 x0 = some r) : Met l yJ6_bitCount_0f7a4 wsJ6_bitCount_0f7a4 rm_J6_bitCount_0f7a4 (pcG D G [.int (Int32.ofInt x0)] sz []) (qcI D G (Int32.ofInt r) [] (va_A [] sz)) 0 0 (va_A [] sz) := by
  refine Met.ofW (cc := cJ6_bitCount_0f7a4) (maxL := 1) (ret := (some .int)) (by decide) rfl ?_
  intro p e s m args below meth c s₁ B hml hv
  obtain ⟨rfl, hsz, hP, hK, hD0⟩ := hv
  have hx := B.exec
  have hb := B.bytes
  have hr := B.returns
  have hts := atoms_spec (ws := wsJ6_bitCount_0f7a4) B.pre
  have hown : s.vm.findClass RJ6 = some m.cls := findClass_of_methodNamed B.named
  have hlocks := B.notSynchronized
  subst hsz
  have hD := hD0.self (sz := s.heap.size)
  generalize hAe : va_A [] s.heap.size = A at hD ⊢
  have hA : ∀ q : Nat, s.heap.size ≤ q → A q := fun q h => by rw [← hAe]; exact Or.inr h
  clear hAe hD0
  have hS : va_S A s.heap s.heap [] := va_S.rf
  have hl := lv_entry ([.int (Int32.ofInt x0)]) (n := 1) (Nat.le_of_ble_eq_true rfl)
  rw [lg_entry_eq]
  generalize (lg_sl ([.int (Int32.ofInt x0)]) ++ List.replicate (1 - (lg_sl ([.int (Int32.ofInt x0)])).length) Slot.unset).toArray = ls at hl ⊢
  have hl : lv_has ls 1 [(0, .int (Int32.ofInt x0))] := hl
  refine W_nameQ (fun Q hQ => ?_)
  obtain ⟨H, hH⟩ : ∃ H, H = s.heap := ⟨_, rfl⟩
  replace hS : va_S A s.heap H [] := by rw [hH]; exact hS
  replace hP : va_P D vwCl [] H := by rw [hH]; exact hP
  rw [← hH]
  clear hH
  unfold f_J6_bitCount_0f7a4 at hf
  refine lv_iload_n hx hb dJ6_bitCount_0f7a4_0 rfl (lv_at hl 0 rfl) ?_
  refine lv_iload_n hx hb dJ6_bitCount_0f7a4_1 rfl (lv_at hl 0 rfl) ?_
  refine lv_iconst (v := Int32.ofInt (1 : Int)) hx hb dJ6_bitCount_0f7a4_2 (by decide) ?_
  refine lv_iushr (v := Int32.ofInt (z_ushr x0 (1 : Int))) hx hb dJ6_bitCount_0f7a4_3 (z_ushr_e x0 (1 : Int)).symm ?_
  refine lv_ldcw (v := (1431655765 : Int32)) hx hb hown (hts _ mwJ6_bitCount_0f7a4_0) dJ6_bitCount_0f7a4_4 (z_ci (show Int32.ofInt (1431655765 : Int) = _ from by decide) ?_)
  refine lv_iand hx hb dJ6_bitCount_0f7a4_7 (z_ci (z_and_e (z_ushr x0 (1 : Int)) (1431655765 : Int)) ?_)
  refine lv_isub hx hb dJ6_bitCount_0f7a4_8 (z_ci (Int32.ofInt_sub x0 (z_and (z_ushr x0 (1 : Int)) (1431655765 : Int))) ?_)
  refine z_topi (fun z1 ez => ?_)
  replace hf := bnd_s hf ez
  clear ez
  refine lv_istore_n (lv' := [(0, .int (Int32.ofInt z1))]) hx hb dJ6_bitCount_0f7a4_9 rfl hl (by decide) rfl (fun ls hl => ?_)
  refine lv_iload_n hx hb dJ6_bitCount_0f7a4_10 rfl (lv_at hl 0 rfl) ?_
  refine lv_ldcw (v := (858993459 : Int32)) hx hb hown (hts _ mwJ6_bitCount_0f7a4_1) dJ6_bitCount_0f7a4_11 (z_ci (show Int32.ofInt (858993459 : Int) = _ from by decide) ?_)
  refine lv_iand hx hb dJ6_bitCount_0f7a4_14 (z_ci (z_and_e z1 (858993459 : Int)) ?_)
  refine lv_iload_n hx hb dJ6_bitCount_0f7a4_15 rfl (lv_at hl 0 rfl) ?_
  refine lv_iconst (v := Int32.ofInt (2 : Int)) hx hb dJ6_bitCount_0f7a4_16 (by decide) ?_
  refine lv_iushr (v := Int32.ofInt (z_ushr z1 (2 : Int))) hx hb dJ6_bitCount_0f7a4_17 (z_ushr_e z1 (2 : Int)).symm ?_
  refine lv_ldcw (v := (858993459 : Int32)) hx hb hown (hts _ mwJ6_bitCount_0f7a4_1) dJ6_bitCount_0f7a4_18 (z_ci (show Int32.ofInt (858993459 : Int) = _ from by decide) ?_)
  refine lv_iand hx hb dJ6_bitCount_0f7a4_21 (z_ci (z_and_e (z_ushr z1 (2 : Int)) (858993459 : Int)) ?_)
  refine lv_iadd hx hb dJ6_bitCount_0f7a4_22 (z_ci (Int32.ofInt_add (z_and z1 (858993459 : Int)) (z_and (z_ushr z1 (2 : Int)) (858993459 : Int))) ?_)
  refine z_topi (fun z2 ez => ?_)
  replace hf := bnd_s hf ez
  clear ez
  refine lv_istore_n (lv' := [(0, .int (Int32.ofInt z2))]) hx hb dJ6_bitCount_0f7a4_23 rfl hl (by decide) rfl (fun ls hl => ?_)
  refine lv_iload_n hx hb dJ6_bitCount_0f7a4_24 rfl (lv_at hl 0 rfl) ?_
  refine lv_iload_n hx hb dJ6_bitCount_0f7a4_25 rfl (lv_at hl 0 rfl) ?_
  refine lv_iconst (v := Int32.ofInt (4 : Int)) hx hb dJ6_bitCount_0f7a4_26 (by decide) ?_
  refine lv_iushr (v := Int32.ofInt (z_ushr z2 (4 : Int))) hx hb dJ6_bitCount_0f7a4_27 (z_ushr_e z2 (4 : Int)).symm ?_
  refine lv_iadd hx hb dJ6_bitCount_0f7a4_28 (z_ci (Int32.ofInt_add z2 (z_ushr z2 (4 : Int))) ?_)
  refine lv_ldcw (v := (252645135 : Int32)) hx hb hown (hts _ mwJ6_bitCount_0f7a4_2) dJ6_bitCount_0f7a4_29 (z_ci (show Int32.ofInt (252645135 : Int) = _ from by decide) ?_)
  refine lv_iand hx hb dJ6_bitCount_0f7a4_32 (z_ci (z_and_e (z2 + (z_ushr z2 (4 : Int))) (252645135 : Int)) ?_)
  refine z_topi (fun z3 ez => ?_)
  replace hf := bnd_s hf ez
  clear ez
  refine lv_istore_n (lv' := [(0, .int (Int32.ofInt z3))]) hx hb dJ6_bitCount_0f7a4_33 rfl hl (by decide) rfl (fun ls hl => ?_)
  refine lv_iload_n hx hb dJ6_bitCount_0f7a4_34 rfl (lv_at hl 0 rfl) ?_
  refine lv_iload_n hx hb dJ6_bitCount_0f7a4_35 rfl (lv_at hl 0 rfl) ?_
  refine lv_bipush (v := Int32.ofInt (8 : Int)) hx hb dJ6_bitCount_0f7a4_36 (by decide) ?_
  refine lv_iushr (v := Int32.ofInt (z_ushr z3 (8 : Int))) hx hb dJ6_bitCount_0f7a4_38 (z_ushr_e z3 (8 : Int)).symm ?_
  refine lv_iadd hx hb dJ6_bitCount_0f7a4_39 (z_ci (Int32.ofInt_add z3 (z_ushr z3 (8 : Int))) ?_)
  refine z_topi (fun z4 ez => ?_)
  replace hf := bnd_s hf ez
  clear ez
  refine lv_istore_n (lv' := [(0, .int (Int32.ofInt z4))]) hx hb dJ6_bitCount_0f7a4_40 rfl hl (by decide) rfl (fun ls hl => ?_)
  refine lv_iload_n hx hb dJ6_bitCount_0f7a4_41 rfl (lv_at hl 0 rfl) ?_
  refine lv_iload_n hx hb dJ6_bitCount_0f7a4_42 rfl (lv_at hl 0 rfl) ?_
  refine lv_bipush (v := Int32.ofInt (16 : Int)) hx hb dJ6_bitCount_0f7a4_43 (by decide) ?_
  refine lv_iushr (v := Int32.ofInt (z_ushr z4 (16 : Int))) hx hb dJ6_bitCount_0f7a4_45 (z_ushr_e z4 (16 : Int)).symm ?_
  refine lv_iadd hx hb dJ6_bitCount_0f7a4_46 (z_ci (Int32.ofInt_add z4 (z_ushr z4 (16 : Int))) ?_)
  refine z_topi (fun z5 ez => ?_)
  replace hf := bnd_s hf ez
  clear ez
  refine lv_istore_n (lv' := [(0, .int (Int32.ofInt z5))]) hx hb dJ6_bitCount_0f7a4_47 rfl hl (by decide) rfl (fun ls hl => ?_)
  refine lv_iload_n hx hb dJ6_bitCount_0f7a4_48 rfl (lv_at hl 0 rfl) ?_
  refine lv_bipush (v := Int32.ofInt (63 : Int)) hx hb dJ6_bitCount_0f7a4_49 (by decide) ?_
  refine lv_iand hx hb dJ6_bitCount_0f7a4_51 (z_ci (z_and_e z5 (63 : Int)) ?_)
  obtain rfl := ou1 hf
  rw [hQ]
  exact W.iret hx hb hr (fun t ht hW => ⟨⟨_, (), rfl, rfl, by rw [ht]; exact hP, va_K.moved hW.alike hK, hD⟩, hS.F ht⟩) hS.2.2 dJ6_bitCount_0f7a4_52

noncomputable def B_X4_howMany_27 (i_p0_kitchen_state_seenDays : Int) (v_p0_kitchen_state_seen : (Int → Int)) (i_p0_kitchen_rules_seats : Int) (v_p0_kitchen_state_friends : (Int → Int)) (i_p0_kitchen_rules_stirs : Int) (v_p0_kitchen_rules_after : (Int → Int)) (again27 : Int → Int → Int → Int → (Int → Int) → (Int → Int) → (Int → Int) → Option (Int × (Int → Int) × (Int → Int) × (Int → Int))) (z5 : Int) (z6 : Int) (z7 : Int) (z8 : Int) (w9 : (Int → Int)) (w10 : (Int → Int)) (w11 : (Int → Int)) : Option (Int × (Int → Int) × (Int → Int) × (Int → Int)) := (ck (z_r32 z5) (ck (z_r32 i_p0_kitchen_state_seenDays) (if i_p0_kitchen_state_seenDays ≤ z5 then (some (z8, w9, w10, w11)) else (ck (z_ix z5 6) (bnd (v_p0_kitchen_state_seen z5) (fun (z15 : Int) => (bd2 (f_X2_serve i_p0_kitchen_rules_seats v_p0_kitchen_state_friends w9 w10 z7) (fun (w16 : (Int → Int)) (w17 : (Int → Int)) => (bd1 (f_X2_placeOf w16 z7 z15) (fun (z18 : Int) => (bnd z18 (fun (z19 : Int) => (bd1 (f_X4_stirsBringing i_p0_kitchen_rules_stirs v_p0_kitchen_rules_after z6 z19) (fun (z20 : Int) => (ck (z_ix z5 6) (bnd (z_up w11 z5 z20) (fun (w21 : (Int → Int)) => (ck (z_ix z5 6) (bd1 (f_J6_bitCount_0f7a4 (w21 z5)) (fun (z22 : Int) => (bnd (z8 * z22) (fun (z23 : Int) => (bnd z15 (fun (z24 : Int) => (bnd z19 (fun (z25 : Int) => (bnd (z5 + (1 : Int)) (fun (z26 : Int) => (again27 z26 z25 z24 z23 w16 w17 w21)))))))))))))))))))))))))))))
noncomputable def f_X4_howMany (i_p0_kitchen_rules_seats : Int) (i_p0_kitchen_rules_stirs : Int) (v_p0_kitchen_rules_after : (Int → Int)) (i_p0_kitchen_state_seenDays : Int) (i_p0_kitchen_state_bone : Int) (i_p0_kitchen_state_king : Int) (v_p0_kitchen_state_friends : (Int → Int)) (v_p0_kitchen_state_seen : (Int → Int)) (v_p0_kitchen_places : (Int → Int)) (v_p0_kitchen_holders : (Int → Int)) (v_p0_fitting : (Int → Int)) : Option (Int × (Int → Int) × (Int → Int) × (Int → Int)) := (bnd (1 : Int) (fun (z1 : Int) => (bnd i_p0_kitchen_state_king (fun (z2 : Int) => (bnd i_p0_kitchen_state_bone (fun (z3 : Int) => (bnd (0 : Int) (fun (z4 : Int) => (lq7 (B_X4_howMany_27 i_p0_kitchen_state_seenDays v_p0_kitchen_state_seen i_p0_kitchen_rules_seats v_p0_kitchen_state_friends i_p0_kitchen_rules_stirs v_p0_kitchen_rules_after) 1000 z4 z3 z2 z1 v_p0_kitchen_places v_p0_kitchen_holders v_p0_fitting)))))))))
abbrev rm_X4_howMany : Room := { frames := 2, cells := 0, slots := 0, locals := 49 }
theorem inX4_howMany_X4 : ∀ w ∈ wsX40, w ∈ wsX4_howMany := by first | exact fun w h => List.mem_cons_of_mem _ (List.mem_append_left _ (List.mem_append_left _ (List.mem_append_left _ (List.mem_append_right _ h)))) | decide +kernel
theorem mwX4_howMany_1 : Cond.fieldLink RX4 15 "LadleKings$Past" "kitchen" "LLadleKings$Kitchen;" ∈ wsX4_howMany := by first | exact List.mem_of_getElem? (i := 1) rfl | decide +kernel
theorem inX4_howMany_X2 : ∀ w ∈ wsX20, w ∈ wsX4_howMany := by first | exact fun w h => List.mem_cons_of_mem _ (List.mem_append_left _ (List.mem_append_left _ (List.mem_append_right _ h))) | decide +kernel
theorem mwX4_howMany_3 : Cond.fieldLink RX4 19 "LadleKings$Kitchen" "state" "LLadleKings$State;" ∈ wsX4_howMany := by first | exact List.mem_of_getElem? (i := 2) rfl | decide +kernel
theorem inX4_howMany_X8 : ∀ w ∈ wsX80, w ∈ wsX4_howMany := by first | exact fun w h => List.mem_cons_of_mem _ (List.mem_append_left _ (List.mem_append_right _ h)) | decide +kernel
theorem mwX4_howMany_5 : Cond.fieldLink RX4 25 "LadleKings$State" "king" "I" ∈ wsX4_howMany := by first | exact List.mem_of_getElem? (i := 3) rfl | decide +kernel
theorem mwX4_howMany_6 : Cond.fieldLink RX4 31 "LadleKings$State" "bone" "I" ∈ wsX4_howMany := by first | exact List.mem_of_getElem? (i := 4) rfl | decide +kernel
theorem mwX4_howMany_7 : Cond.fieldLink RX4 34 "LadleKings$State" "seenDays" "I" ∈ wsX4_howMany := by first | exact List.mem_of_getElem? (i := 5) rfl | decide +kernel
theorem mwX4_howMany_8 : Cond.fieldLink RX4 37 "LadleKings$State" "seen" "[I" ∈ wsX4_howMany := by first | exact List.mem_of_getElem? (i := 6) rfl | decide +kernel
theorem mwX4_howMany_9 : Cond.fieldLink RX4 9 "LadleKings$Past" "fitting" "[I" ∈ wsX4_howMany := by first | exact List.mem_of_getElem? (i := 7) rfl | decide +kernel
theorem hdV_yX4_stirsBringing_RX4 : yX4_stirsBringing.cls = RX4 ∧ yX4_stirsBringing.cls ≠ "java/lang/invoke/MethodHandle" ∧ yX4_stirsBringing.cls ≠ "java/lang/invoke/VarHandle" ∧ (parseMethodDescriptor yX4_stirsBringing.desc).map (fun d => d.parameters.length) = some 2 := by decide +kernel
set_option maxHeartbeats 8000000 in
set_option maxRecDepth 100000 in
theorem c_X4_howMany (l : Launch) (D : va_G) (G : Nat → ClassId) (sz : Nat) (a_p0 : Nat) (a_p0_kitchen : Nat) (a_p0_fitting : Nat) (a_p0_kitchen_rules : Nat) (a_p0_kitchen_state : Nat) (a_p0_kitchen_places : Nat) (a_p0_kitchen_holders : Nat) (a_p0_kitchen_stirred : Nat) (a_p0_kitchen_rules_need : Nat) (a_p0_kitchen_rules_kind : Nat) (a_p0_kitchen_rules_first : Nat) (a_p0_kitchen_rules_second : Nat) (a_p0_kitchen_rules_after : Nat) (a_p0_kitchen_state_pieces : Nat) (a_p0_kitchen_state_friends : Nat) (a_p0_kitchen_state_spoons : Nat) (a_p0_kitchen_state_eaten : Nat) (a_p0_kitchen_state_seen : Nat) (i_p0_kitchen_rules_seats : Int) (i_p0_kitchen_rules_stirs : Int) (v_p0_kitchen_rules_after : (Int → Int)) (i_p0_kitchen_state_seenDays : Int) (i_p0_kitchen_state_bone : Int) (i_p0_kitchen_state_king : Int) (i_p0_kitchen_state_days : Int) (v_p0_kitchen_state_friends : (Int → Int)) (v_p0_kitchen_state_seen : (Int → Int)) (v_p0_kitchen_places : (Int → Int)) (v_p0_kitchen_holders : (Int → Int)) (v_p0_fitting : (Int → Int)) (r : Int) (o_v_p0_kitchen_places : (Int → Int)) (o_v_p0_kitchen_holders : (Int → Int)) (o_v_p0_fitting : (Int → Int)) (hf : f_X4_howMany i_p0_kitchen_rules_seats i_p0_kitchen_rules_stirs v_p0_kitchen_rules_after i_p0_kitchen_state_seenDays i_p0_kitchen_state_bone i_p0_kitchen_state_king v_p0_kitchen_state_friends v_p0_kitchen_state_seen v_p0_kitchen_places v_p0_kitchen_holders v_p0_fitting = some (r, o_v_p0_kitchen_places, o_v_p0_kitchen_holders, o_v_p0_fitting)) : Met l yX4_howMany wsX4_howMany rm_X4_howMany (pcG D G [.ref a_p0] sz [(a_p0, .inr (4, [.ref a_p0_kitchen, .ref a_p0_fitting])), (a_p0_kitchen, .inr (2, [.ref a_p0_kitchen_rules, .ref a_p0_kitchen_state, .ref a_p0_kitchen_places, .ref a_p0_kitchen_holders, .ref a_p0_kitchen_stirred])), (a_p0_kitchen_rules, .inr (6, [.int (Int32.ofInt i_p0_kitchen_rules_seats), .int (Int32.ofInt i_p0_kitchen_rules_stirs), .ref a_p0_kitchen_rules_need, .ref a_p0_kitchen_rules_kind, .ref a_p0_kitchen_rules_first, .ref a_p0_kitchen_rules_second, .ref a_p0_kitchen_rules_after])), (a_p0_kitchen_rules_after, .inl (G 1, 35, .inl (zA v_p0_kitchen_rules_after))), (a_p0_kitchen_state, .inr (8, [.ref a_p0_kitchen_state_pieces, .ref a_p0_kitchen_state_friends, .ref a_p0_kitchen_state_spoons, .ref a_p0_kitchen_state_eaten, .ref a_p0_kitchen_state_seen, .int (Int32.ofInt i_p0_kitchen_state_seenDays), .int (Int32.ofInt i_p0_kitchen_state_bone), .int (Int32.ofInt i_p0_kitchen_state_king), .int (Int32.ofInt i_p0_kitchen_state_days)])), (a_p0_kitchen_state_friends, .inl (G 1, 7, .inl (zA v_p0_kitchen_state_friends))), (a_p0_kitchen_state_seen, .inl (G 1, 6, .inl (zA v_p0_kitchen_state_seen))), (a_p0_kitchen_places, .inl (G 1, 49, .inl (zA v_p0_kitchen_places))), (a_p0_kitchen_holders, .inl (G 1, 49, .inl (zA v_p0_kitchen_holders))), (a_p0_fitting, .inl (G 1, 6, .inl (zA v_p0_fitting)))]) (qcI D G (Int32.ofInt r) [(a_p0, .inr (4, [.ref a_p0_kitchen, .ref a_p0_fitting])), (a_p0_kitchen, .inr (2, [.ref a_p0_kitchen_rules, .ref a_p0_kitchen_state, .ref a_p0_kitchen_places, .ref a_p0_kitchen_holders, .ref a_p0_kitchen_stirred])), (a_p0_kitchen_rules, .inr (6, [.int (Int32.ofInt i_p0_kitchen_rules_seats), .int (Int32.ofInt i_p0_kitchen_rules_stirs), .ref a_p0_kitchen_rules_need, .ref a_p0_kitchen_rules_kind, .ref a_p0_kitchen_rules_first, .ref a_p0_kitchen_rules_second, .ref a_p0_kitchen_rules_after])), (a_p0_kitchen_rules_after, .inl (G 1, 35, .inl (zA v_p0_kitchen_rules_after))), (a_p0_kitchen_state, .inr (8, [.ref a_p0_kitchen_state_pieces, .ref a_p0_kitchen_state_friends, .ref a_p0_kitchen_state_spoons, .ref a_p0_kitchen_state_eaten, .ref a_p0_kitchen_state_seen, .int (Int32.ofInt i_p0_kitchen_state_seenDays), .int (Int32.ofInt i_p0_kitchen_state_bone), .int (Int32.ofInt i_p0_kitchen_state_king), .int (Int32.ofInt i_p0_kitchen_state_days)])), (a_p0_kitchen_state_friends, .inl (G 1, 7, .inl (zA v_p0_kitchen_state_friends))), (a_p0_kitchen_state_seen, .inl (G 1, 6, .inl (zA v_p0_kitchen_state_seen))), (a_p0_kitchen_places, .inl (G 1, 49, .inl (zA o_v_p0_kitchen_places))), (a_p0_kitchen_holders, .inl (G 1, 49, .inl (zA o_v_p0_kitchen_holders))), (a_p0_fitting, .inl (G 1, 6, .inl (zA o_v_p0_fitting)))] (va_A [(a_p0, .inr (4, [.ref a_p0_kitchen, .ref a_p0_fitting])), (a_p0_kitchen, .inr (2, [.ref a_p0_kitchen_rules, .ref a_p0_kitchen_state, .ref a_p0_kitchen_places, .ref a_p0_kitchen_holders, .ref a_p0_kitchen_stirred])), (a_p0_kitchen_rules, .inr (6, [.int (Int32.ofInt i_p0_kitchen_rules_seats), .int (Int32.ofInt i_p0_kitchen_rules_stirs), .ref a_p0_kitchen_rules_need, .ref a_p0_kitchen_rules_kind, .ref a_p0_kitchen_rules_first, .ref a_p0_kitchen_rules_second, .ref a_p0_kitchen_rules_after])), (a_p0_kitchen_rules_after, .inl (G 1, 35, .inl (zA v_p0_kitchen_rules_after))), (a_p0_kitchen_state, .inr (8, [.ref a_p0_kitchen_state_pieces, .ref a_p0_kitchen_state_friends, .ref a_p0_kitchen_state_spoons, .ref a_p0_kitchen_state_eaten, .ref a_p0_kitchen_state_seen, .int (Int32.ofInt i_p0_kitchen_state_seenDays), .int (Int32.ofInt i_p0_kitchen_state_bone), .int (Int32.ofInt i_p0_kitchen_state_king), .int (Int32.ofInt i_p0_kitchen_state_days)])), (a_p0_kitchen_state_friends, .inl (G 1, 7, .inl (zA v_p0_kitchen_state_friends))), (a_p0_kitchen_state_seen, .inl (G 1, 6, .inl (zA v_p0_kitchen_state_seen))), (a_p0_kitchen_places, .inl (G 1, 49, .inl (zA v_p0_kitchen_places))), (a_p0_kitchen_holders, .inl (G 1, 49, .inl (zA v_p0_kitchen_holders))), (a_p0_fitting, .inl (G 1, 6, .inl (zA v_p0_fitting)))] sz)) 0 0 (va_A [(a_p0, .inr (4, [.ref a_p0_kitchen, .ref a_p0_fitting])), (a_p0_kitchen, .inr (2, [.ref a_p0_kitchen_rules, .ref a_p0_kitchen_state, .ref a_p0_kitchen_places, .ref a_p0_kitchen_holders, .ref a_p0_kitchen_stirred])), (a_p0_kitchen_rules, .inr (6, [.int (Int32.ofInt i_p0_kitchen_rules_seats), .int (Int32.ofInt i_p0_kitchen_rules_stirs), .ref a_p0_kitchen_rules_need, .ref a_p0_kitchen_rules_kind, .ref a_p0_kitchen_rules_first, .ref a_p0_kitchen_rules_second, .ref a_p0_kitchen_rules_after])), (a_p0_kitchen_rules_after, .inl (G 1, 35, .inl (zA v_p0_kitchen_rules_after))), (a_p0_kitchen_state, .inr (8, [.ref a_p0_kitchen_state_pieces, .ref a_p0_kitchen_state_friends, .ref a_p0_kitchen_state_spoons, .ref a_p0_kitchen_state_eaten, .ref a_p0_kitchen_state_seen, .int (Int32.ofInt i_p0_kitchen_state_seenDays), .int (Int32.ofInt i_p0_kitchen_state_bone), .int (Int32.ofInt i_p0_kitchen_state_king), .int (Int32.ofInt i_p0_kitchen_state_days)])), (a_p0_kitchen_state_friends, .inl (G 1, 7, .inl (zA v_p0_kitchen_state_friends))), (a_p0_kitchen_state_seen, .inl (G 1, 6, .inl (zA v_p0_kitchen_state_seen))), (a_p0_kitchen_places, .inl (G 1, 49, .inl (zA v_p0_kitchen_places))), (a_p0_kitchen_holders, .inl (G 1, 49, .inl (zA v_p0_kitchen_holders))), (a_p0_fitting, .inl (G 1, 6, .inl (zA v_p0_fitting)))] sz) := by
  refine Met.ofW (cc := cX4_howMany) (maxL := 7) (ret := (some .int)) (by decide) rfl ?_
  intro p e s m args below meth c s₁ B hml hv
  obtain ⟨rfl, hsz, hP, hK, hD0⟩ := hv
  have hx := B.exec
  have hb := B.bytes
  have hr := B.returns
  have hts := atoms_spec (ws := wsX4_howMany) B.pre
  have hown : s.vm.findClass RX4 = some m.cls := findClass_of_methodNamed B.named
  have hlocks := B.notSynchronized
  subst hsz
  have hD := hD0.self (sz := s.heap.size)
  generalize hAe : va_A [(a_p0, .inr (4, [.ref a_p0_kitchen, .ref a_p0_fitting])), (a_p0_kitchen, .inr (2, [.ref a_p0_kitchen_rules, .ref a_p0_kitchen_state, .ref a_p0_kitchen_places, .ref a_p0_kitchen_holders, .ref a_p0_kitchen_stirred])), (a_p0_kitchen_rules, .inr (6, [.int (Int32.ofInt i_p0_kitchen_rules_seats), .int (Int32.ofInt i_p0_kitchen_rules_stirs), .ref a_p0_kitchen_rules_need, .ref a_p0_kitchen_rules_kind, .ref a_p0_kitchen_rules_first, .ref a_p0_kitchen_rules_second, .ref a_p0_kitchen_rules_after])), (a_p0_kitchen_rules_after, .inl (G 1, 35, .inl (zA v_p0_kitchen_rules_after))), (a_p0_kitchen_state, .inr (8, [.ref a_p0_kitchen_state_pieces, .ref a_p0_kitchen_state_friends, .ref a_p0_kitchen_state_spoons, .ref a_p0_kitchen_state_eaten, .ref a_p0_kitchen_state_seen, .int (Int32.ofInt i_p0_kitchen_state_seenDays), .int (Int32.ofInt i_p0_kitchen_state_bone), .int (Int32.ofInt i_p0_kitchen_state_king), .int (Int32.ofInt i_p0_kitchen_state_days)])), (a_p0_kitchen_state_friends, .inl (G 1, 7, .inl (zA v_p0_kitchen_state_friends))), (a_p0_kitchen_state_seen, .inl (G 1, 6, .inl (zA v_p0_kitchen_state_seen))), (a_p0_kitchen_places, .inl (G 1, 49, .inl (zA v_p0_kitchen_places))), (a_p0_kitchen_holders, .inl (G 1, 49, .inl (zA v_p0_kitchen_holders))), (a_p0_fitting, .inl (G 1, 6, .inl (zA v_p0_fitting)))] s.heap.size = A at hD ⊢
  have hA : ∀ q : Nat, s.heap.size ≤ q → A q := fun q h => by rw [← hAe]; exact Or.inr h
  clear hAe hD0
  have hS : va_S A s.heap s.heap [] := va_S.rf
  have hl := lv_entry ([.ref a_p0]) (n := 7) (Nat.le_of_ble_eq_true rfl)
  rw [lg_entry_eq]
  generalize (lg_sl ([.ref a_p0]) ++ List.replicate (7 - (lg_sl ([.ref a_p0])).length) Slot.unset).toArray = ls at hl ⊢
  have hl : lv_has ls 7 [(0, .ref a_p0)] := hl
  refine W_nameQ (fun Q hQ => ?_)
  obtain ⟨H, hH⟩ : ∃ H, H = s.heap := ⟨_, rfl⟩
  replace hS : va_S A s.heap H [] := by rw [hH]; exact hS
  replace hP : va_P D vwCl [(a_p0, .inr (4, [.ref a_p0_kitchen, .ref a_p0_fitting])), (a_p0_kitchen, .inr (2, [.ref a_p0_kitchen_rules, .ref a_p0_kitchen_state, .ref a_p0_kitchen_places, .ref a_p0_kitchen_holders, .ref a_p0_kitchen_stirred])), (a_p0_kitchen_rules, .inr (6, [.int (Int32.ofInt i_p0_kitchen_rules_seats), .int (Int32.ofInt i_p0_kitchen_rules_stirs), .ref a_p0_kitchen_rules_need, .ref a_p0_kitchen_rules_kind, .ref a_p0_kitchen_rules_first, .ref a_p0_kitchen_rules_second, .ref a_p0_kitchen_rules_after])), (a_p0_kitchen_rules_after, .inl (G 1, 35, .inl (zA v_p0_kitchen_rules_after))), (a_p0_kitchen_state, .inr (8, [.ref a_p0_kitchen_state_pieces, .ref a_p0_kitchen_state_friends, .ref a_p0_kitchen_state_spoons, .ref a_p0_kitchen_state_eaten, .ref a_p0_kitchen_state_seen, .int (Int32.ofInt i_p0_kitchen_state_seenDays), .int (Int32.ofInt i_p0_kitchen_state_bone), .int (Int32.ofInt i_p0_kitchen_state_king), .int (Int32.ofInt i_p0_kitchen_state_days)])), (a_p0_kitchen_state_friends, .inl (G 1, 7, .inl (zA v_p0_kitchen_state_friends))), (a_p0_kitchen_state_seen, .inl (G 1, 6, .inl (zA v_p0_kitchen_state_seen))), (a_p0_kitchen_places, .inl (G 1, 49, .inl (zA v_p0_kitchen_places))), (a_p0_kitchen_holders, .inl (G 1, 49, .inl (zA v_p0_kitchen_holders))), (a_p0_fitting, .inl (G 1, 6, .inl (zA v_p0_fitting)))] H := by rw [hH]; exact hP
  rw [← hH]
  clear hH
  unfold f_X4_howMany at hf
  refine lv_iconst (v := Int32.ofInt (1 : Int)) hx hb dX4_howMany_0 (by decide) ?_
  refine z_topi (fun z1 ez => ?_)
  replace hf := bnd_s hf ez
  clear ez
  refine lv_istore_n (lv' := [(1, .int (Int32.ofInt z1)), (0, .ref a_p0)]) hx hb dX4_howMany_1 rfl hl (by decide) rfl (fun ls hl => ?_)
  refine lv_aload_n hx hb dX4_howMany_2 rfl (lv_at hl 1 rfl) ?_
  refine va_get (D := D) (ci := 4) (v := .ref a_p0_kitchen) (C := RX4) (T := TX4) (N := 2) hx hb hts inX4_howMany_X4 hown hK hP 0 rfl rfl 0 (by decide) (hts _ mwX4_howMany_1) (fun _ h9 => h9) rfl dX4_howMany_3 ?_
  refine va_get (D := D) (ci := 2) (v := .ref a_p0_kitchen_state) (C := RX2) (T := TX2) (N := 5) hx hb hts inX4_howMany_X2 hown hK hP 1 rfl rfl 1 (by decide) (hts _ mwX4_howMany_3) (fun _ h9 => h9) rfl dX4_howMany_6 ?_
  refine va_get (D := D) (ci := 8) (v := .int (Int32.ofInt i_p0_kitchen_state_king)) (C := RX8) (T := TX8) (N := 9) hx hb hts inX4_howMany_X8 hown hK hP 4 rfl rfl 7 (by decide) (hts _ mwX4_howMany_5) (fun _ h9 => h9) rfl dX4_howMany_9 ?_
  refine z_topi (fun z2 ez => ?_)
  replace hf := bnd_s hf ez
  clear ez
  refine lv_istore_n (lv' := [(2, .int (Int32.ofInt z2)), (1, .int (Int32.ofInt z1)), (0, .ref a_p0)]) hx hb dX4_howMany_12 rfl hl (by decide) rfl (fun ls hl => ?_)
  refine lv_aload_n hx hb dX4_howMany_13 rfl (lv_at hl 2 rfl) ?_
  refine va_get (D := D) (ci := 4) (v := .ref a_p0_kitchen) (C := RX4) (T := TX4) (N := 2) hx hb hts inX4_howMany_X4 hown hK hP 0 rfl rfl 0 (by decide) (hts _ mwX4_howMany_1) (fun _ h9 => h9) rfl dX4_howMany_14 ?_
  refine va_get (D := D) (ci := 2) (v := .ref a_p0_kitchen_state) (C := RX2) (T := TX2) (N := 5) hx hb hts inX4_howMany_X2 hown hK hP 1 rfl rfl 1 (by decide) (hts _ mwX4_howMany_3) (fun _ h9 => h9) rfl dX4_howMany_17 ?_
  refine va_get (D := D) (ci := 8) (v := .int (Int32.ofInt i_p0_kitchen_state_bone)) (C := RX8) (T := TX8) (N := 9) hx hb hts inX4_howMany_X8 hown hK hP 4 rfl rfl 6 (by decide) (hts _ mwX4_howMany_6) (fun _ h9 => h9) rfl dX4_howMany_20 ?_
  refine z_topi (fun z3 ez => ?_)
  replace hf := bnd_s hf ez
  clear ez
  refine lv_istore_n (lv' := [(3, .int (Int32.ofInt z3)), (2, .int (Int32.ofInt z2)), (1, .int (Int32.ofInt z1)), (0, .ref a_p0)]) hx hb dX4_howMany_23 rfl hl (by decide) rfl (fun ls hl => ?_)
  refine lv_iconst (v := Int32.ofInt (0 : Int)) hx hb dX4_howMany_24 (by decide) ?_
  refine z_topi (fun z4 ez => ?_)
  replace hf := bnd_s hf ez
  clear ez
  refine lv_istore (lv' := [(4, .int (Int32.ofInt z4)), (3, .int (Int32.ofInt z3)), (2, .int (Int32.ofInt z2)), (1, .int (Int32.ofInt z1)), (0, .ref a_p0)]) hx hb dX4_howMany_25 hl (by decide) rfl (fun ls hl => ?_)
  have hq := lq7_i hf
  clear hf
  obtain ⟨B12, eB12, NB12, hf⟩ := hq
  have hB12 : ∀ (n : Nat) (z5 : Int) (z6 : Int) (z7 : Int) (z8 : Int) (w9 : (Int → Int)) (w10 : (Int → Int)) (w11 : (Int → Int)) (ls : Array Slot) (H : Heap) (locs : List Loc), lv_has ls 7 [(4, .int (Int32.ofInt z5)), (3, .int (Int32.ofInt z6)), (2, .int (Int32.ofInt z7)), (1, .int (Int32.ofInt z8)), (0, .ref a_p0)] → va_P D vwCl [(a_p0, .inr (4, [.ref a_p0_kitchen, .ref a_p0_fitting])), (a_p0_kitchen, .inr (2, [.ref a_p0_kitchen_rules, .ref a_p0_kitchen_state, .ref a_p0_kitchen_places, .ref a_p0_kitchen_holders, .ref a_p0_kitchen_stirred])), (a_p0_kitchen_rules, .inr (6, [.int (Int32.ofInt i_p0_kitchen_rules_seats), .int (Int32.ofInt i_p0_kitchen_rules_stirs), .ref a_p0_kitchen_rules_need, .ref a_p0_kitchen_rules_kind, .ref a_p0_kitchen_rules_first, .ref a_p0_kitchen_rules_second, .ref a_p0_kitchen_rules_after])), (a_p0_kitchen_rules_after, .inl (G 1, 35, .inl (zA v_p0_kitchen_rules_after))), (a_p0_kitchen_state, .inr (8, [.ref a_p0_kitchen_state_pieces, .ref a_p0_kitchen_state_friends, .ref a_p0_kitchen_state_spoons, .ref a_p0_kitchen_state_eaten, .ref a_p0_kitchen_state_seen, .int (Int32.ofInt i_p0_kitchen_state_seenDays), .int (Int32.ofInt i_p0_kitchen_state_bone), .int (Int32.ofInt i_p0_kitchen_state_king), .int (Int32.ofInt i_p0_kitchen_state_days)])), (a_p0_kitchen_state_friends, .inl (G 1, 7, .inl (zA v_p0_kitchen_state_friends))), (a_p0_kitchen_state_seen, .inl (G 1, 6, .inl (zA v_p0_kitchen_state_seen))), (a_p0_kitchen_places, .inl (G 1, 49, .inl (zA w9))), (a_p0_kitchen_holders, .inl (G 1, 49, .inl (zA w10))), (a_p0_fitting, .inl (G 1, 6, .inl (zA w11)))] H → va_D A [(a_p0, .inr (4, [.ref a_p0_kitchen, .ref a_p0_fitting])), (a_p0_kitchen, .inr (2, [.ref a_p0_kitchen_rules, .ref a_p0_kitchen_state, .ref a_p0_kitchen_places, .ref a_p0_kitchen_holders, .ref a_p0_kitchen_stirred])), (a_p0_kitchen_rules, .inr (6, [.int (Int32.ofInt i_p0_kitchen_rules_seats), .int (Int32.ofInt i_p0_kitchen_rules_stirs), .ref a_p0_kitchen_rules_need, .ref a_p0_kitchen_rules_kind, .ref a_p0_kitchen_rules_first, .ref a_p0_kitchen_rules_second, .ref a_p0_kitchen_rules_after])), (a_p0_kitchen_rules_after, .inl (G 1, 35, .inl (zA v_p0_kitchen_rules_after))), (a_p0_kitchen_state, .inr (8, [.ref a_p0_kitchen_state_pieces, .ref a_p0_kitchen_state_friends, .ref a_p0_kitchen_state_spoons, .ref a_p0_kitchen_state_eaten, .ref a_p0_kitchen_state_seen, .int (Int32.ofInt i_p0_kitchen_state_seenDays), .int (Int32.ofInt i_p0_kitchen_state_bone), .int (Int32.ofInt i_p0_kitchen_state_king), .int (Int32.ofInt i_p0_kitchen_state_days)])), (a_p0_kitchen_state_friends, .inl (G 1, 7, .inl (zA v_p0_kitchen_state_friends))), (a_p0_kitchen_state_seen, .inl (G 1, 6, .inl (zA v_p0_kitchen_state_seen))), (a_p0_kitchen_places, .inl (G 1, 49, .inl (zA w9))), (a_p0_kitchen_holders, .inl (G 1, 49, .inl (zA w10))), (a_p0_fitting, .inl (G 1, 6, .inl (zA w11)))] → va_S A s.heap H locs → lq7 B12 n z5 z6 z7 z8 w9 w10 w11 = some (r, o_v_p0_kitchen_places, o_v_p0_kitchen_holders, o_v_p0_fitting) → W p l e rm_X4_howMany s m ([.ref a_p0] : List Value).toArray below meth c H locs 0 0 Q (F0 m 27 ls []) := by
    clear hf hl hP hD hS
    intro n
    induction n with
    | zero =>
      intro z5 z6 z7 z8 w9 w10 w11 ls H locs hl hP hD hS hf
      exact (lq7_0 hf).elim
    | succ n ih27 =>
      intro z5 z6 z7 z8 w9 w10 w11 ls H locs hl hP hD hS hf
      replace hf := lq7_s eB12 hf
      unfold B_X4_howMany_27 at hf
      refine lv_iload hx hb dX4_howMany_27 (lv_at hl 0 rfl) ?_
      refine lv_aload_n hx hb dX4_howMany_29 rfl (lv_at hl 4 rfl) ?_
      refine va_get (D := D) (ci := 4) (v := .ref a_p0_kitchen) (C := RX4) (T := TX4) (N := 2) hx hb hts inX4_howMany_X4 hown hK hP 0 rfl rfl 0 (by decide) (hts _ mwX4_howMany_1) (fun _ h9 => h9) rfl dX4_howMany_30 ?_
      refine va_get (D := D) (ci := 2) (v := .ref a_p0_kitchen_state) (C := RX2) (T := TX2) (N := 5) hx hb hts inX4_howMany_X2 hown hK hP 1 rfl rfl 1 (by decide) (hts _ mwX4_howMany_3) (fun _ h9 => h9) rfl dX4_howMany_33 ?_
      refine va_get (D := D) (ci := 8) (v := .int (Int32.ofInt i_p0_kitchen_state_seenDays)) (C := RX8) (T := TX8) (N := 9) hx hb hts inX4_howMany_X8 hown hK hP 4 rfl rfl 5 (by decide) (hts _ mwX4_howMany_7) (fun _ h9 => h9) rfl dX4_howMany_36 ?_
      have hr12 := ck_c hf
      replace hf := ck_r hf
      have hr13 := ck_c hf
      replace hf := ck_r hf
      refine lv_icmp_ge (tgt := 116) hx hb dX4_howMany_39 (by decide) (fun cc => ?_) (fun cc => ?_)
      ·
        replace hf := ite_t ((z_le hr13 hr12).mp cc) hf
        clear cc
        refine lv_iload_n hx hb dX4_howMany_116 rfl (lv_at hl 3 rfl) ?_
        obtain ⟨rfl, rfl, rfl, rfl⟩ := ou4 hf
        rw [hQ]
        exact W.iret hx hb hr (fun t ht hW => ⟨⟨_, (), rfl, rfl, by rw [ht]; exact hP, va_K.moved hW.alike hK, hD⟩, hS.F ht⟩) hS.2.2 dX4_howMany_117
      ·
        replace hf := ite_f (fun h9 => cc ((z_le hr13 hr12).mpr h9)) hf
        clear cc
        refine lv_aload_n hx hb dX4_howMany_42 rfl (lv_at hl 4 rfl) ?_
        refine va_get (D := D) (ci := 4) (v := .ref a_p0_kitchen) (C := RX4) (T := TX4) (N := 2) hx hb hts inX4_howMany_X4 hown hK hP 0 rfl rfl 0 (by decide) (hts _ mwX4_howMany_1) (fun _ h9 => h9) rfl dX4_howMany_43 ?_
        refine va_get (D := D) (ci := 2) (v := .ref a_p0_kitchen_state) (C := RX2) (T := TX2) (N := 5) hx hb hts inX4_howMany_X2 hown hK hP 1 rfl rfl 1 (by decide) (hts _ mwX4_howMany_3) (fun _ h9 => h9) rfl dX4_howMany_46 ?_
        refine va_get (D := D) (ci := 8) (v := .ref a_p0_kitchen_state_seen) (C := RX8) (T := TX8) (N := 9) hx hb hts inX4_howMany_X8 hown hK hP 4 rfl rfl 4 (by decide) (hts _ mwX4_howMany_8) (fun _ h9 => h9) rfl dX4_howMany_49 ?_
        refine lv_iload hx hb dX4_howMany_52 (lv_at hl 0 rfl) ?_
        have hc := ck_c hf
        replace hf := ck_r hf
        refine va_iald hx hb hK hP 6 1 rfl rfl (z_ix_in hc) dX4_howMany_54 (z_ci (z_ald v_p0_kitchen_state_seen hc) ?_)
        clear hc
        refine z_topi (fun z15 ez => ?_)
        replace hf := bnd_s hf ez
        clear ez
        refine lv_istore (lv' := [(5, .int (Int32.ofInt z15)), (4, .int (Int32.ofInt z5)), (3, .int (Int32.ofInt z6)), (2, .int (Int32.ofInt z7)), (1, .int (Int32.ofInt z8)), (0, .ref a_p0)]) hx hb dX4_howMany_55 hl (by decide) rfl (fun ls hl => ?_)
        refine lv_aload_n hx hb dX4_howMany_57 rfl (lv_at hl 5 rfl) ?_
        refine va_get (D := D) (ci := 4) (v := .ref a_p0_kitchen) (C := RX4) (T := TX4) (N := 2) hx hb hts inX4_howMany_X4 hown hK hP 0 rfl rfl 0 (by decide) (hts _ mwX4_howMany_1) (fun _ h9 => h9) rfl dX4_howMany_58 ?_
        refine lv_iload_n hx hb dX4_howMany_61 rfl (lv_at hl 3 rfl) ?_
        have hq := bd2_s hf
        clear hf
        obtain ⟨w16, w17, hcall, hf⟩ := hq
        refine gsV (ws' := [(a_p0, .inr (4, [.ref a_p0_kitchen, .ref a_p0_fitting])), (a_p0_kitchen, .inr (2, [.ref a_p0_kitchen_rules, .ref a_p0_kitchen_state, .ref a_p0_kitchen_places, .ref a_p0_kitchen_holders, .ref a_p0_kitchen_stirred])), (a_p0_kitchen_rules, .inr (6, [.int (Int32.ofInt i_p0_kitchen_rules_seats), .int (Int32.ofInt i_p0_kitchen_rules_stirs), .ref a_p0_kitchen_rules_need, .ref a_p0_kitchen_rules_kind, .ref a_p0_kitchen_rules_first, .ref a_p0_kitchen_rules_second, .ref a_p0_kitchen_rules_after])), (a_p0_kitchen_rules_after, .inl (G 1, 35, .inl (zA v_p0_kitchen_rules_after))), (a_p0_kitchen_state, .inr (8, [.ref a_p0_kitchen_state_pieces, .ref a_p0_kitchen_state_friends, .ref a_p0_kitchen_state_spoons, .ref a_p0_kitchen_state_eaten, .ref a_p0_kitchen_state_seen, .int (Int32.ofInt i_p0_kitchen_state_seenDays), .int (Int32.ofInt i_p0_kitchen_state_bone), .int (Int32.ofInt i_p0_kitchen_state_king), .int (Int32.ofInt i_p0_kitchen_state_days)])), (a_p0_kitchen_state_friends, .inl (G 1, 7, .inl (zA v_p0_kitchen_state_friends))), (a_p0_kitchen_state_seen, .inl (G 1, 6, .inl (zA v_p0_kitchen_state_seen))), (a_p0_kitchen_places, .inl (G 1, 49, .inl (zA w16))), (a_p0_kitchen_holders, .inl (G 1, 49, .inl (zA w17))), (a_p0_fitting, .inl (G 1, 6, .inl (zA w11)))]) (va_runV (As := [.int (Int32.ofInt z7)]) (rest := []) ⟨hx, hb, hml, hown, hts⟩ (c_X2_serve (l := l) (D := D) (G := G) (sz := H.size) (a_p0 := a_p0_kitchen) (a_p0_rules := a_p0_kitchen_rules) (a_p0_state := a_p0_kitchen_state) (a_p0_places := a_p0_kitchen_places) (a_p0_holders := a_p0_kitchen_holders) (a_p0_stirred := a_p0_kitchen_stirred) (a_p0_rules_need := a_p0_kitchen_rules_need) (a_p0_rules_kind := a_p0_kitchen_rules_kind) (a_p0_rules_first := a_p0_kitchen_rules_first) (a_p0_rules_second := a_p0_kitchen_rules_second) (a_p0_rules_after := a_p0_kitchen_rules_after) (a_p0_state_pieces := a_p0_kitchen_state_pieces) (a_p0_state_friends := a_p0_kitchen_state_friends) (a_p0_state_spoons := a_p0_kitchen_state_spoons) (a_p0_state_eaten := a_p0_kitchen_state_eaten) (a_p0_state_seen := a_p0_kitchen_state_seen) (i_p0_rules_seats := i_p0_kitchen_rules_seats) (i_p0_rules_stirs := i_p0_kitchen_rules_stirs) (i_p0_state_seenDays := i_p0_kitchen_state_seenDays) (i_p0_state_bone := i_p0_kitchen_state_bone) (i_p0_state_king := i_p0_kitchen_state_king) (i_p0_state_days := i_p0_kitchen_state_days) (v_p0_state_friends := v_p0_kitchen_state_friends) (v_p0_places := w9) (v_p0_holders := w10) (x1 := z7) (o_v_p0_places := w16) (o_v_p0_holders := w17) (hf := hcall)) (cwV 1 hts gX4_howMany_X2_serve rfl rfl rfl hdV_yX2_serve_RX2 ⟨Nat.le_of_ble_eq_true rfl, Nat.le_of_ble_eq_true rfl⟩) (preG_V (ci := 2) (q := (RX2, TX2, 5)) (hP.sub [1, 2, 4, 5, 7, 8] rfl) (hD.sub [1, 2, 4, 5, 7, 8] rfl rfl) hK rfl rfl) rfl rfl hl.1 rfl (lv_room (Nat.le_of_ble_eq_true rfl)) dX4_howMany_62 ⟨Nat.le_of_ble_eq_true rfl, Nat.le_of_ble_eq_true rfl⟩) hP hD hS hA [1, 2, 4, 5, 7, 8] rfl rfl rfl (fun H locs hP hD hS => ?_)
        clear hcall
        refine lv_aload_n hx hb dX4_howMany_65 rfl (lv_at hl 5 rfl) ?_
        refine va_get (D := D) (ci := 4) (v := .ref a_p0_kitchen) (C := RX4) (T := TX4) (N := 2) hx hb hts inX4_howMany_X4 hown hK hP 0 rfl rfl 0 (by decide) (hts _ mwX4_howMany_1) (fun _ h9 => h9) rfl dX4_howMany_66 ?_
        refine lv_iload_n hx hb dX4_howMany_69 rfl (lv_at hl 3 rfl) ?_
        refine lv_iload hx hb dX4_howMany_70 (lv_at hl 0 rfl) ?_
        have hq := bd1_s hf
        clear hf
        obtain ⟨z18, hcall, hf⟩ := hq
        refine gnI (va_runV (As := [.int (Int32.ofInt z7), .int (Int32.ofInt z15)]) (rest := []) ⟨hx, hb, hml, hown, hts⟩ (c_X2_placeOf (l := l) (D := D) (G := G) (sz := H.size) (a_p0 := a_p0_kitchen) (a_p0_rules := a_p0_kitchen_rules) (a_p0_state := a_p0_kitchen_state) (a_p0_places := a_p0_kitchen_places) (a_p0_holders := a_p0_kitchen_holders) (a_p0_stirred := a_p0_kitchen_stirred) (v_p0_places := w16) (x1 := z7) (x2 := z15) (r := z18) (hf := hcall)) (cwV 2 hts gX4_howMany_X2_placeOf rfl rfl rfl hdV_yX2_placeOf_RX2 ⟨Nat.le_of_ble_eq_true rfl, Nat.le_of_ble_eq_true rfl⟩) (preG_V (ci := 2) (q := (RX2, TX2, 5)) (hP.sub [1, 7] rfl) (hD.sub [1, 7] rfl rfl) hK rfl rfl) rfl rfl hl.1 rfl (lv_room (Nat.le_of_ble_eq_true rfl)) dX4_howMany_72 ⟨Nat.le_of_ble_eq_true rfl, Nat.le_of_ble_eq_true rfl⟩) hP hD hS hA [1, 7] rfl (fun H locs hP hD hS => ?_)
        clear hcall
        refine z_topi (fun z19 ez => ?_)
        replace hf := bnd_s hf ez
        clear ez
        refine lv_istore (lv' := [(6, .int (Int32.ofInt z19)), (5, .int (Int32.ofInt z15)), (4, .int (Int32.ofInt z5)), (3, .int (Int32.ofInt z6)), (2, .int (Int32.ofInt z7)), (1, .int (Int32.ofInt z8)), (0, .ref a_p0)]) hx hb dX4_howMany_75 hl (by decide) rfl (fun ls hl => ?_)
        refine lv_aload_n hx hb dX4_howMany_77 rfl (lv_at hl 6 rfl) ?_
        refine va_get (D := D) (ci := 4) (v := .ref a_p0_fitting) (C := RX4) (T := TX4) (N := 2) hx hb hts inX4_howMany_X4 hown hK hP 0 rfl rfl 1 (by decide) (hts _ mwX4_howMany_9) (fun _ h9 => h9) rfl dX4_howMany_78 ?_
        refine lv_iload hx hb dX4_howMany_81 (lv_at hl 2 rfl) ?_
        refine lv_aload_n hx hb dX4_howMany_83 rfl (lv_at hl 6 rfl) ?_
        refine lv_iload_n hx hb dX4_howMany_84 rfl (lv_at hl 3 rfl) ?_
        refine lv_iload hx hb dX4_howMany_85 (lv_at hl 0 rfl) ?_
        have hq := bd1_s hf
        clear hf
        obtain ⟨z20, hcall, hf⟩ := hq
        refine gnI (va_runV (As := [.int (Int32.ofInt z6), .int (Int32.ofInt z19)]) (rest := [.int (Int32.ofInt z5), .ref a_p0_fitting]) ⟨hx, hb, hml, hown, hts⟩ (c_X4_stirsBringing (l := l) (D := D) (G := G) (sz := H.size) (a_p0 := a_p0) (a_p0_kitchen := a_p0_kitchen) (a_p0_fitting := a_p0_fitting) (a_p0_kitchen_rules := a_p0_kitchen_rules) (a_p0_kitchen_state := a_p0_kitchen_state) (a_p0_kitchen_places := a_p0_kitchen_places) (a_p0_kitchen_holders := a_p0_kitchen_holders) (a_p0_kitchen_stirred := a_p0_kitchen_stirred) (a_p0_kitchen_rules_need := a_p0_kitchen_rules_need) (a_p0_kitchen_rules_kind := a_p0_kitchen_rules_kind) (a_p0_kitchen_rules_first := a_p0_kitchen_rules_first) (a_p0_kitchen_rules_second := a_p0_kitchen_rules_second) (a_p0_kitchen_rules_after := a_p0_kitchen_rules_after) (i_p0_kitchen_rules_seats := i_p0_kitchen_rules_seats) (i_p0_kitchen_rules_stirs := i_p0_kitchen_rules_stirs) (v_p0_kitchen_rules_after := v_p0_kitchen_rules_after) (x1 := z6) (x2 := z19) (r := z20) (hf := hcall)) (cwV 2 hts gX4_howMany_X4_stirsBringing rfl rfl rfl hdV_yX4_stirsBringing_RX4 ⟨Nat.le_of_ble_eq_true rfl, Nat.le_of_ble_eq_true rfl⟩) (preG_V (ci := 4) (q := (RX4, TX4, 2)) (hP.sub [0, 1, 2, 3] rfl) (hD.sub [0, 1, 2, 3] rfl rfl) hK rfl rfl) rfl rfl hl.1 rfl (lv_room (Nat.le_of_ble_eq_true rfl)) dX4_howMany_87 ⟨Nat.le_of_ble_eq_true rfl, Nat.le_of_ble_eq_true rfl⟩) hP hD hS hA [0, 1, 2, 3] rfl (fun H locs hP hD hS => ?_)
        clear hcall
        have hc := ck_c hf
        replace hf := ck_r hf
        refine zs_iast (wf := fun w21 => [(a_p0, .inr (4, [.ref a_p0_kitchen, .ref a_p0_fitting])), (a_p0_kitchen, .inr (2, [.ref a_p0_kitchen_rules, .ref a_p0_kitchen_state, .ref a_p0_kitchen_places, .ref a_p0_kitchen_holders, .ref a_p0_kitchen_stirred])), (a_p0_kitchen_rules, .inr (6, [.int (Int32.ofInt i_p0_kitchen_rules_seats), .int (Int32.ofInt i_p0_kitchen_rules_stirs), .ref a_p0_kitchen_rules_need, .ref a_p0_kitchen_rules_kind, .ref a_p0_kitchen_rules_first, .ref a_p0_kitchen_rules_second, .ref a_p0_kitchen_rules_after])), (a_p0_kitchen_rules_after, .inl (G 1, 35, .inl (zA v_p0_kitchen_rules_after))), (a_p0_kitchen_state, .inr (8, [.ref a_p0_kitchen_state_pieces, .ref a_p0_kitchen_state_friends, .ref a_p0_kitchen_state_spoons, .ref a_p0_kitchen_state_eaten, .ref a_p0_kitchen_state_seen, .int (Int32.ofInt i_p0_kitchen_state_seenDays), .int (Int32.ofInt i_p0_kitchen_state_bone), .int (Int32.ofInt i_p0_kitchen_state_king), .int (Int32.ofInt i_p0_kitchen_state_days)])), (a_p0_kitchen_state_friends, .inl (G 1, 7, .inl (zA v_p0_kitchen_state_friends))), (a_p0_kitchen_state_seen, .inl (G 1, 6, .inl (zA v_p0_kitchen_state_seen))), (a_p0_kitchen_places, .inl (G 1, 49, .inl (zA w16))), (a_p0_kitchen_holders, .inl (G 1, 49, .inl (zA w17))), (a_p0_fitting, .inl (G 1, 6, .inl (zA w21)))]) hx hb hK hP hD hS 9 1 rfl rfl hc dX4_howMany_90 (fun _ => rfl) (fun w21 ez H locs hP hD hS => ?_)
        replace hf := bnd_s hf ez
        clear ez hc
        refine lv_iload_n hx hb dX4_howMany_91 rfl (lv_at hl 5 rfl) ?_
        refine lv_aload_n hx hb dX4_howMany_92 rfl (lv_at hl 6 rfl) ?_
        refine va_get (D := D) (ci := 4) (v := .ref a_p0_fitting) (C := RX4) (T := TX4) (N := 2) hx hb hts inX4_howMany_X4 hown hK hP 0 rfl rfl 1 (by decide) (hts _ mwX4_howMany_9) (fun _ h9 => h9) rfl dX4_howMany_93 ?_
        refine lv_iload hx hb dX4_howMany_96 (lv_at hl 2 rfl) ?_
        have hc := ck_c hf
        replace hf := ck_r hf
        refine va_iald hx hb hK hP 9 1 rfl rfl (z_ix_in hc) dX4_howMany_98 (z_ci (z_ald w21 hc) ?_)
        clear hc
        have hq := bd1_s hf
        clear hf
        obtain ⟨z22, hcall, hf⟩ := hq
        refine gnI (va_runS (As := [.int (Int32.ofInt (w21 z5))]) (rest := [.int (Int32.ofInt z8)]) ⟨hx, hb, hml, hown, hts⟩ (c_J6_bitCount_0f7a4 (l := l) (D := D) (G := G) (sz := H.size) (x0 := (w21 z5)) (r := z22) (hf := hcall)) (va_cwS 1 hts gX4_howMany_J6_bitCount_0f7a4 rfl rfl rfl (by decide +kernel) ⟨Nat.le_of_ble_eq_true rfl, Nat.le_of_ble_eq_true rfl⟩) (preG_S (hP.sub [] rfl) (hD.sub [] rfl rfl) hK) rfl rfl hl.1 rfl (lv_room (Nat.le_of_ble_eq_true rfl)) dX4_howMany_99 ⟨Nat.le_of_ble_eq_true rfl, Nat.le_of_ble_eq_true rfl⟩) hP hD hS hA [] rfl (fun H locs hP hD hS => ?_)
        clear hcall
        refine lv_imul hx hb dX4_howMany_102 (z_ci (Int32.ofInt_mul z8 z22) ?_)
        refine z_topi (fun z23 ez => ?_)
        replace hf := bnd_s hf ez
        clear ez
        refine lv_istore_n (lv' := [(1, .int (Int32.ofInt z23)), (6, .int (Int32.ofInt z19)), (5, .int (Int32.ofInt z15)), (4, .int (Int32.ofInt z5)), (3, .int (Int32.ofInt z6)), (2, .int (Int32.ofInt z7)), (0, .ref a_p0)]) hx hb dX4_howMany_103 rfl hl (by decide) rfl (fun ls hl => ?_)
        refine lv_iload hx hb dX4_howMany_104 (lv_at hl 2 rfl) ?_
        refine z_topi (fun z24 ez => ?_)
        replace hf := bnd_s hf ez
        clear ez
        refine lv_istore_n (lv' := [(2, .int (Int32.ofInt z24)), (1, .int (Int32.ofInt z23)), (6, .int (Int32.ofInt z19)), (5, .int (Int32.ofInt z15)), (4, .int (Int32.ofInt z5)), (3, .int (Int32.ofInt z6)), (0, .ref a_p0)]) hx hb dX4_howMany_106 rfl hl (by decide) rfl (fun ls hl => ?_)
        refine lv_iload hx hb dX4_howMany_107 (lv_at hl 2 rfl) ?_
        refine z_topi (fun z25 ez => ?_)
        replace hf := bnd_s hf ez
        clear ez
        refine lv_istore_n (lv' := [(3, .int (Int32.ofInt z25)), (2, .int (Int32.ofInt z24)), (1, .int (Int32.ofInt z23)), (6, .int (Int32.ofInt z19)), (5, .int (Int32.ofInt z15)), (4, .int (Int32.ofInt z5)), (0, .ref a_p0)]) hx hb dX4_howMany_109 rfl hl (by decide) rfl (fun ls hl => ?_)
        obtain ⟨z26, ez⟩ : ∃ y : Int, y = (z5 + (1 : Int)) := ⟨_, rfl⟩
        replace hf := bnd_s hf ez
        refine lv_iinc (v := Int32.ofInt z26) (lv' := [(4, .int (Int32.ofInt z26)), (3, .int (Int32.ofInt z25)), (2, .int (Int32.ofInt z24)), (1, .int (Int32.ofInt z23)), (6, .int (Int32.ofInt z19)), (5, .int (Int32.ofInt z15)), (0, .ref a_p0)]) hx hb dX4_howMany_110 hl (k := 5) rfl (by rw [ez]; exact (Int32.ofInt_add _ _).symm) (by decide) rfl (fun ls hl => ?_)
        clear ez
        refine lv_goto (tgt := 27) hx hb dX4_howMany_113 (by decide) ?_
        exact ih27 _ _ _ _ _ _ _ _ _ _ (lv_sub hl [0, 1, 2, 3, 6] rfl) hP hD hS hf
  exact hB12 _ _ _ _ _ _ _ _ _ _ _ (lv_sub hl [0, 1, 2, 3, 4] rfl) hP hD hS hf

noncomputable def f_X4_stirsOfDay (i_p0_kitchen_rules_seats : Int) (i_p0_kitchen_rules_stirs : Int) (v_p0_kitchen_rules_after : (Int → Int)) (i_p0_kitchen_state_seenDays : Int) (i_p0_kitchen_state_bone : Int) (i_p0_kitchen_state_king : Int) (v_p0_kitchen_state_friends : (Int → Int)) (v_p0_kitchen_state_seen : (Int → Int)) (v_p0_kitchen_places : (Int → Int)) (v_p0_kitchen_holders : (Int → Int)) (v_p0_fitting : (Int → Int)) (x1 : Int) : Option (Int × (Int → Int) × (Int → Int) × (Int → Int)) := (ck (z_r32 x1) (jn (fun (z2 : Int) => (bnd z2 (fun (z4 : Int) => (ck (z_r32 z4) (if z4 = (0 : Int) then (some ((0 : Int), v_p0_kitchen_places, v_p0_kitchen_holders, v_p0_fitting)) else (bd4 (f_X4_howMany i_p0_kitchen_rules_seats i_p0_kitchen_rules_stirs v_p0_kitchen_rules_after i_p0_kitchen_state_seenDays i_p0_kitchen_state_bone i_p0_kitchen_state_king v_p0_kitchen_state_friends v_p0_kitchen_state_seen v_p0_kitchen_places v_p0_kitchen_holders v_p0_fitting) (fun (z6 : Int) (w7 : (Int → Int)) (w8 : (Int → Int)) (w9 : (Int → Int)) => (ck (z_r32 z6) (if z6 ≤ (0 : Int) then (some ((0 : Int), w7, w8, w9)) else (ck (z_ix x1 6) (some ((w9 x1), w7, w8, w9)))))))))))) (fun (J3 : Int → Option (Int × (Int → Int) × (Int → Int) × (Int → Int))) => (jn (J3 (0 : Int)) (fun (J11 : Option (Int × (Int → Int) × (Int → Int) × (Int → Int))) => (if x1 < (0 : Int) then (J11) else (ck (z_r32 i_p0_kitchen_state_seenDays) (if i_p0_kitchen_state_seenDays ≤ x1 then (J11) else (J3 (1 : Int))))))))))
abbrev rm_X4_stirsOfDay : Room := { frames := 3, cells := 0, slots := 0, locals := 75 }
theorem hdV_yX4_howMany_RX4 : yX4_howMany.cls = RX4 ∧ yX4_howMany.cls ≠ "java/lang/invoke/MethodHandle" ∧ yX4_howMany.cls ≠ "java/lang/invoke/VarHandle" ∧ (parseMethodDescriptor yX4_howMany.desc).map (fun d => d.parameters.length) = some 0 := by decide +kernel
theorem inX4_stirsOfDay_X4 : ∀ w ∈ wsX40, w ∈ wsX4_stirsOfDay := by first | exact fun w h => List.mem_cons_of_mem _ (List.mem_append_left _ (List.mem_append_left _ (List.mem_append_left _ (List.mem_append_right _ h)))) | decide +kernel
theorem mwX4_stirsOfDay_2 : Cond.fieldLink RX4 9 "LadleKings$Past" "fitting" "[I" ∈ wsX4_stirsOfDay := by first | exact List.mem_of_getElem? (i := 4) rfl | decide +kernel
theorem mwX4_stirsOfDay_3 : Cond.fieldLink RX4 15 "LadleKings$Past" "kitchen" "LLadleKings$Kitchen;" ∈ wsX4_stirsOfDay := by first | exact List.mem_of_getElem? (i := 1) rfl | decide +kernel
theorem inX4_stirsOfDay_X2 : ∀ w ∈ wsX20, w ∈ wsX4_stirsOfDay := by first | exact fun w h => List.mem_cons_of_mem _ (List.mem_append_left _ (List.mem_append_left _ (List.mem_append_right _ h))) | decide +kernel
theorem mwX4_stirsOfDay_5 : Cond.fieldLink RX4 19 "LadleKings$Kitchen" "state" "LLadleKings$State;" ∈ wsX4_stirsOfDay := by first | exact List.mem_of_getElem? (i := 2) rfl | decide +kernel
theorem inX4_stirsOfDay_X8 : ∀ w ∈ wsX80, w ∈ wsX4_stirsOfDay := by first | exact fun w h => List.mem_cons_of_mem _ (List.mem_append_left _ (List.mem_append_right _ h)) | decide +kernel
theorem mwX4_stirsOfDay_7 : Cond.fieldLink RX4 34 "LadleKings$State" "seenDays" "I" ∈ wsX4_stirsOfDay := by first | exact List.mem_of_getElem? (i := 3) rfl | decide +kernel
set_option maxHeartbeats 8000000 in
set_option maxRecDepth 100000 in
theorem c_X4_stirsOfDay (l : Launch) (D : va_G) (G : Nat → ClassId) (sz : Nat) (a_p0 : Nat) (a_p0_kitchen : Nat) (a_p0_fitting : Nat) (a_p0_kitchen_rules : Nat) (a_p0_kitchen_state : Nat) (a_p0_kitchen_places : Nat) (a_p0_kitchen_holders : Nat) (a_p0_kitchen_stirred : Nat) (a_p0_kitchen_rules_need : Nat) (a_p0_kitchen_rules_kind : Nat) (a_p0_kitchen_rules_first : Nat) (a_p0_kitchen_rules_second : Nat) (a_p0_kitchen_rules_after : Nat) (a_p0_kitchen_state_pieces : Nat) (a_p0_kitchen_state_friends : Nat) (a_p0_kitchen_state_spoons : Nat) (a_p0_kitchen_state_eaten : Nat) (a_p0_kitchen_state_seen : Nat) (i_p0_kitchen_rules_seats : Int) (i_p0_kitchen_rules_stirs : Int) (v_p0_kitchen_rules_after : (Int → Int)) (i_p0_kitchen_state_seenDays : Int) (i_p0_kitchen_state_bone : Int) (i_p0_kitchen_state_king : Int) (i_p0_kitchen_state_days : Int) (v_p0_kitchen_state_friends : (Int → Int)) (v_p0_kitchen_state_seen : (Int → Int)) (v_p0_kitchen_places : (Int → Int)) (v_p0_kitchen_holders : (Int → Int)) (v_p0_fitting : (Int → Int)) (x1 : Int) (r : Int) (o_v_p0_kitchen_places : (Int → Int)) (o_v_p0_kitchen_holders : (Int → Int)) (o_v_p0_fitting : (Int → Int)) (hf : f_X4_stirsOfDay i_p0_kitchen_rules_seats i_p0_kitchen_rules_stirs v_p0_kitchen_rules_after i_p0_kitchen_state_seenDays i_p0_kitchen_state_bone i_p0_kitchen_state_king v_p0_kitchen_state_friends v_p0_kitchen_state_seen v_p0_kitchen_places v_p0_kitchen_holders v_p0_fitting x1 = some (r, o_v_p0_kitchen_places, o_v_p0_kitchen_holders, o_v_p0_fitting)) : Met l yX4_stirsOfDay wsX4_stirsOfDay rm_X4_stirsOfDay (pcG D G [.ref a_p0, .int (Int32.ofInt x1)] sz [(a_p0, .inr (4, [.ref a_p0_kitchen, .ref a_p0_fitting])), (a_p0_kitchen, .inr (2, [.ref a_p0_kitchen_rules, .ref a_p0_kitchen_state, .ref a_p0_kitchen_places, .ref a_p0_kitchen_holders, .ref a_p0_kitchen_stirred])), (a_p0_kitchen_rules, .inr (6, [.int (Int32.ofInt i_p0_kitchen_rules_seats), .int (Int32.ofInt i_p0_kitchen_rules_stirs), .ref a_p0_kitchen_rules_need, .ref a_p0_kitchen_rules_kind, .ref a_p0_kitchen_rules_first, .ref a_p0_kitchen_rules_second, .ref a_p0_kitchen_rules_after])), (a_p0_kitchen_rules_after, .inl (G 1, 35, .inl (zA v_p0_kitchen_rules_after))), (a_p0_kitchen_state, .inr (8, [.ref a_p0_kitchen_state_pieces, .ref a_p0_kitchen_state_friends, .ref a_p0_kitchen_state_spoons, .ref a_p0_kitchen_state_eaten, .ref a_p0_kitchen_state_seen, .int (Int32.ofInt i_p0_kitchen_state_seenDays), .int (Int32.ofInt i_p0_kitchen_state_bone), .int (Int32.ofInt i_p0_kitchen_state_king), .int (Int32.ofInt i_p0_kitchen_state_days)])), (a_p0_kitchen_state_friends, .inl (G 1, 7, .inl (zA v_p0_kitchen_state_friends))), (a_p0_kitchen_state_seen, .inl (G 1, 6, .inl (zA v_p0_kitchen_state_seen))), (a_p0_kitchen_places, .inl (G 1, 49, .inl (zA v_p0_kitchen_places))), (a_p0_kitchen_holders, .inl (G 1, 49, .inl (zA v_p0_kitchen_holders))), (a_p0_fitting, .inl (G 1, 6, .inl (zA v_p0_fitting)))]) (qcI D G (Int32.ofInt r) [(a_p0, .inr (4, [.ref a_p0_kitchen, .ref a_p0_fitting])), (a_p0_kitchen, .inr (2, [.ref a_p0_kitchen_rules, .ref a_p0_kitchen_state, .ref a_p0_kitchen_places, .ref a_p0_kitchen_holders, .ref a_p0_kitchen_stirred])), (a_p0_kitchen_rules, .inr (6, [.int (Int32.ofInt i_p0_kitchen_rules_seats), .int (Int32.ofInt i_p0_kitchen_rules_stirs), .ref a_p0_kitchen_rules_need, .ref a_p0_kitchen_rules_kind, .ref a_p0_kitchen_rules_first, .ref a_p0_kitchen_rules_second, .ref a_p0_kitchen_rules_after])), (a_p0_kitchen_rules_after, .inl (G 1, 35, .inl (zA v_p0_kitchen_rules_after))), (a_p0_kitchen_state, .inr (8, [.ref a_p0_kitchen_state_pieces, .ref a_p0_kitchen_state_friends, .ref a_p0_kitchen_state_spoons, .ref a_p0_kitchen_state_eaten, .ref a_p0_kitchen_state_seen, .int (Int32.ofInt i_p0_kitchen_state_seenDays), .int (Int32.ofInt i_p0_kitchen_state_bone), .int (Int32.ofInt i_p0_kitchen_state_king), .int (Int32.ofInt i_p0_kitchen_state_days)])), (a_p0_kitchen_state_friends, .inl (G 1, 7, .inl (zA v_p0_kitchen_state_friends))), (a_p0_kitchen_state_seen, .inl (G 1, 6, .inl (zA v_p0_kitchen_state_seen))), (a_p0_kitchen_places, .inl (G 1, 49, .inl (zA o_v_p0_kitchen_places))), (a_p0_kitchen_holders, .inl (G 1, 49, .inl (zA o_v_p0_kitchen_holders))), (a_p0_fitting, .inl (G 1, 6, .inl (zA o_v_p0_fitting)))] (va_A [(a_p0, .inr (4, [.ref a_p0_kitchen, .ref a_p0_fitting])), (a_p0_kitchen, .inr (2, [.ref a_p0_kitchen_rules, .ref a_p0_kitchen_state, .ref a_p0_kitchen_places, .ref a_p0_kitchen_holders, .ref a_p0_kitchen_stirred])), (a_p0_kitchen_rules, .inr (6, [.int (Int32.ofInt i_p0_kitchen_rules_seats), .int (Int32.ofInt i_p0_kitchen_rules_stirs), .ref a_p0_kitchen_rules_need, .ref a_p0_kitchen_rules_kind, .ref a_p0_kitchen_rules_first, .ref a_p0_kitchen_rules_second, .ref a_p0_kitchen_rules_after])), (a_p0_kitchen_rules_after, .inl (G 1, 35, .inl (zA v_p0_kitchen_rules_after))), (a_p0_kitchen_state, .inr (8, [.ref a_p0_kitchen_state_pieces, .ref a_p0_kitchen_state_friends, .ref a_p0_kitchen_state_spoons, .ref a_p0_kitchen_state_eaten, .ref a_p0_kitchen_state_seen, .int (Int32.ofInt i_p0_kitchen_state_seenDays), .int (Int32.ofInt i_p0_kitchen_state_bone), .int (Int32.ofInt i_p0_kitchen_state_king), .int (Int32.ofInt i_p0_kitchen_state_days)])), (a_p0_kitchen_state_friends, .inl (G 1, 7, .inl (zA v_p0_kitchen_state_friends))), (a_p0_kitchen_state_seen, .inl (G 1, 6, .inl (zA v_p0_kitchen_state_seen))), (a_p0_kitchen_places, .inl (G 1, 49, .inl (zA v_p0_kitchen_places))), (a_p0_kitchen_holders, .inl (G 1, 49, .inl (zA v_p0_kitchen_holders))), (a_p0_fitting, .inl (G 1, 6, .inl (zA v_p0_fitting)))] sz)) 0 0 (va_A [(a_p0, .inr (4, [.ref a_p0_kitchen, .ref a_p0_fitting])), (a_p0_kitchen, .inr (2, [.ref a_p0_kitchen_rules, .ref a_p0_kitchen_state, .ref a_p0_kitchen_places, .ref a_p0_kitchen_holders, .ref a_p0_kitchen_stirred])), (a_p0_kitchen_rules, .inr (6, [.int (Int32.ofInt i_p0_kitchen_rules_seats), .int (Int32.ofInt i_p0_kitchen_rules_stirs), .ref a_p0_kitchen_rules_need, .ref a_p0_kitchen_rules_kind, .ref a_p0_kitchen_rules_first, .ref a_p0_kitchen_rules_second, .ref a_p0_kitchen_rules_after])), (a_p0_kitchen_rules_after, .inl (G 1, 35, .inl (zA v_p0_kitchen_rules_after))), (a_p0_kitchen_state, .inr (8, [.ref a_p0_kitchen_state_pieces, .ref a_p0_kitchen_state_friends, .ref a_p0_kitchen_state_spoons, .ref a_p0_kitchen_state_eaten, .ref a_p0_kitchen_state_seen, .int (Int32.ofInt i_p0_kitchen_state_seenDays), .int (Int32.ofInt i_p0_kitchen_state_bone), .int (Int32.ofInt i_p0_kitchen_state_king), .int (Int32.ofInt i_p0_kitchen_state_days)])), (a_p0_kitchen_state_friends, .inl (G 1, 7, .inl (zA v_p0_kitchen_state_friends))), (a_p0_kitchen_state_seen, .inl (G 1, 6, .inl (zA v_p0_kitchen_state_seen))), (a_p0_kitchen_places, .inl (G 1, 49, .inl (zA v_p0_kitchen_places))), (a_p0_kitchen_holders, .inl (G 1, 49, .inl (zA v_p0_kitchen_holders))), (a_p0_fitting, .inl (G 1, 6, .inl (zA v_p0_fitting)))] sz) := by
  refine Met.ofW (cc := cX4_stirsOfDay) (maxL := 3) (ret := (some .int)) (by decide) rfl ?_
  intro p e s m args below meth c s₁ B hml hv
  obtain ⟨rfl, hsz, hP, hK, hD0⟩ := hv
  have hx := B.exec
  have hb := B.bytes
  have hr := B.returns
  have hts := atoms_spec (ws := wsX4_stirsOfDay) B.pre
  have hown : s.vm.findClass RX4 = some m.cls := findClass_of_methodNamed B.named
  have hlocks := B.notSynchronized
  subst hsz
  have hD := hD0.self (sz := s.heap.size)
  generalize hAe : va_A [(a_p0, .inr (4, [.ref a_p0_kitchen, .ref a_p0_fitting])), (a_p0_kitchen, .inr (2, [.ref a_p0_kitchen_rules, .ref a_p0_kitchen_state, .ref a_p0_kitchen_places, .ref a_p0_kitchen_holders, .ref a_p0_kitchen_stirred])), (a_p0_kitchen_rules, .inr (6, [.int (Int32.ofInt i_p0_kitchen_rules_seats), .int (Int32.ofInt i_p0_kitchen_rules_stirs), .ref a_p0_kitchen_rules_need, .ref a_p0_kitchen_rules_kind, .ref a_p0_kitchen_rules_first, .ref a_p0_kitchen_rules_second, .ref a_p0_kitchen_rules_after])), (a_p0_kitchen_rules_after, .inl (G 1, 35, .inl (zA v_p0_kitchen_rules_after))), (a_p0_kitchen_state, .inr (8, [.ref a_p0_kitchen_state_pieces, .ref a_p0_kitchen_state_friends, .ref a_p0_kitchen_state_spoons, .ref a_p0_kitchen_state_eaten, .ref a_p0_kitchen_state_seen, .int (Int32.ofInt i_p0_kitchen_state_seenDays), .int (Int32.ofInt i_p0_kitchen_state_bone), .int (Int32.ofInt i_p0_kitchen_state_king), .int (Int32.ofInt i_p0_kitchen_state_days)])), (a_p0_kitchen_state_friends, .inl (G 1, 7, .inl (zA v_p0_kitchen_state_friends))), (a_p0_kitchen_state_seen, .inl (G 1, 6, .inl (zA v_p0_kitchen_state_seen))), (a_p0_kitchen_places, .inl (G 1, 49, .inl (zA v_p0_kitchen_places))), (a_p0_kitchen_holders, .inl (G 1, 49, .inl (zA v_p0_kitchen_holders))), (a_p0_fitting, .inl (G 1, 6, .inl (zA v_p0_fitting)))] s.heap.size = A at hD ⊢
  have hA : ∀ q : Nat, s.heap.size ≤ q → A q := fun q h => by rw [← hAe]; exact Or.inr h
  clear hAe hD0
  have hS : va_S A s.heap s.heap [] := va_S.rf
  have hl := lv_entry ([.ref a_p0, .int (Int32.ofInt x1)]) (n := 3) (Nat.le_of_ble_eq_true rfl)
  rw [lg_entry_eq]
  generalize (lg_sl ([.ref a_p0, .int (Int32.ofInt x1)]) ++ List.replicate (3 - (lg_sl ([.ref a_p0, .int (Int32.ofInt x1)])).length) Slot.unset).toArray = ls at hl ⊢
  have hl : lv_has ls 3 [(0, .ref a_p0), (1, .int (Int32.ofInt x1))] := hl
  refine W_nameQ (fun Q hQ => ?_)
  obtain ⟨H, hH⟩ : ∃ H, H = s.heap := ⟨_, rfl⟩
  replace hS : va_S A s.heap H [] := by rw [hH]; exact hS
  replace hP : va_P D vwCl [(a_p0, .inr (4, [.ref a_p0_kitchen, .ref a_p0_fitting])), (a_p0_kitchen, .inr (2, [.ref a_p0_kitchen_rules, .ref a_p0_kitchen_state, .ref a_p0_kitchen_places, .ref a_p0_kitchen_holders, .ref a_p0_kitchen_stirred])), (a_p0_kitchen_rules, .inr (6, [.int (Int32.ofInt i_p0_kitchen_rules_seats), .int (Int32.ofInt i_p0_kitchen_rules_stirs), .ref a_p0_kitchen_rules_need, .ref a_p0_kitchen_rules_kind, .ref a_p0_kitchen_rules_first, .ref a_p0_kitchen_rules_second, .ref a_p0_kitchen_rules_after])), (a_p0_kitchen_rules_after, .inl (G 1, 35, .inl (zA v_p0_kitchen_rules_after))), (a_p0_kitchen_state, .inr (8, [.ref a_p0_kitchen_state_pieces, .ref a_p0_kitchen_state_friends, .ref a_p0_kitchen_state_spoons, .ref a_p0_kitchen_state_eaten, .ref a_p0_kitchen_state_seen, .int (Int32.ofInt i_p0_kitchen_state_seenDays), .int (Int32.ofInt i_p0_kitchen_state_bone), .int (Int32.ofInt i_p0_kitchen_state_king), .int (Int32.ofInt i_p0_kitchen_state_days)])), (a_p0_kitchen_state_friends, .inl (G 1, 7, .inl (zA v_p0_kitchen_state_friends))), (a_p0_kitchen_state_seen, .inl (G 1, 6, .inl (zA v_p0_kitchen_state_seen))), (a_p0_kitchen_places, .inl (G 1, 49, .inl (zA v_p0_kitchen_places))), (a_p0_kitchen_holders, .inl (G 1, 49, .inl (zA v_p0_kitchen_holders))), (a_p0_fitting, .inl (G 1, 6, .inl (zA v_p0_fitting)))] H := by rw [hH]; exact hP
  rw [← hH]
  clear hH
  unfold f_X4_stirsOfDay at hf
  refine lv_iload_n hx hb dX4_stirsOfDay_0 rfl (lv_at hl 1 rfl) ?_
  have hr0 := ck_c hf
  replace hf := ck_r hf
  have hq := jn_i hf
  clear hf
  obtain ⟨J3, eJ3, hf⟩ := hq
  have hJ3 : ∀ (z2 : Int) (ls : Array Slot) (H : Heap) (locs : List Loc), lv_has ls 3 [(0, .ref a_p0), (1, .int (Int32.ofInt x1))] → va_P D vwCl [(a_p0, .inr (4, [.ref a_p0_kitchen, .ref a_p0_fitting])), (a_p0_kitchen, .inr (2, [.ref a_p0_kitchen_rules, .ref a_p0_kitchen_state, .ref a_p0_kitchen_places, .ref a_p0_kitchen_holders, .ref a_p0_kitchen_stirred])), (a_p0_kitchen_rules, .inr (6, [.int (Int32.ofInt i_p0_kitchen_rules_seats), .int (Int32.ofInt i_p0_kitchen_rules_stirs), .ref a_p0_kitchen_rules_need, .ref a_p0_kitchen_rules_kind, .ref a_p0_kitchen_rules_first, .ref a_p0_kitchen_rules_second, .ref a_p0_kitchen_rules_after])), (a_p0_kitchen_rules_after, .inl (G 1, 35, .inl (zA v_p0_kitchen_rules_after))), (a_p0_kitchen_state, .inr (8, [.ref a_p0_kitchen_state_pieces, .ref a_p0_kitchen_state_friends, .ref a_p0_kitchen_state_spoons, .ref a_p0_kitchen_state_eaten, .ref a_p0_kitchen_state_seen, .int (Int32.ofInt i_p0_kitchen_state_seenDays), .int (Int32.ofInt i_p0_kitchen_state_bone), .int (Int32.ofInt i_p0_kitchen_state_king), .int (Int32.ofInt i_p0_kitchen_state_days)])), (a_p0_kitchen_state_friends, .inl (G 1, 7, .inl (zA v_p0_kitchen_state_friends))), (a_p0_kitchen_state_seen, .inl (G 1, 6, .inl (zA v_p0_kitchen_state_seen))), (a_p0_kitchen_places, .inl (G 1, 49, .inl (zA v_p0_kitchen_places))), (a_p0_kitchen_holders, .inl (G 1, 49, .inl (zA v_p0_kitchen_holders))), (a_p0_fitting, .inl (G 1, 6, .inl (zA v_p0_fitting)))] H → va_D A [(a_p0, .inr (4, [.ref a_p0_kitchen, .ref a_p0_fitting])), (a_p0_kitchen, .inr (2, [.ref a_p0_kitchen_rules, .ref a_p0_kitchen_state, .ref a_p0_kitchen_places, .ref a_p0_kitchen_holders, .ref a_p0_kitchen_stirred])), (a_p0_kitchen_rules, .inr (6, [.int (Int32.ofInt i_p0_kitchen_rules_seats), .int (Int32.ofInt i_p0_kitchen_rules_stirs), .ref a_p0_kitchen_rules_need, .ref a_p0_kitchen_rules_kind, .ref a_p0_kitchen_rules_first, .ref a_p0_kitchen_rules_second, .ref a_p0_kitchen_rules_after])), (a_p0_kitchen_rules_after, .inl (G 1, 35, .inl (zA v_p0_kitchen_rules_after))), (a_p0_kitchen_state, .inr (8, [.ref a_p0_kitchen_state_pieces, .ref a_p0_kitchen_state_friends, .ref a_p0_kitchen_state_spoons, .ref a_p0_kitchen_state_eaten, .ref a_p0_kitchen_state_seen, .int (Int32.ofInt i_p0_kitchen_state_seenDays), .int (Int32.ofInt i_p0_kitchen_state_bone), .int (Int32.ofInt i_p0_kitchen_state_king), .int (Int32.ofInt i_p0_kitchen_state_days)])), (a_p0_kitchen_state_friends, .inl (G 1, 7, .inl (zA v_p0_kitchen_state_friends))), (a_p0_kitchen_state_seen, .inl (G 1, 6, .inl (zA v_p0_kitchen_state_seen))), (a_p0_kitchen_places, .inl (G 1, 49, .inl (zA v_p0_kitchen_places))), (a_p0_kitchen_holders, .inl (G 1, 49, .inl (zA v_p0_kitchen_holders))), (a_p0_fitting, .inl (G 1, 6, .inl (zA v_p0_fitting)))] → va_S A s.heap H locs → J3 z2 = some (r, o_v_p0_kitchen_places, o_v_p0_kitchen_holders, o_v_p0_fitting) → W p l e rm_X4_stirsOfDay s m ([.ref a_p0, .int (Int32.ofInt x1)] : List Value).toArray below meth c H locs 0 0 Q (F0 m 23 ls [.int (Int32.ofInt z2)]) := by
    clear hf hl hP hD hS
    intro z2 ls H locs hl hP hD hS hf
    replace hf := jn1_s eJ3 hf
    refine z_topi (fun z4 ez => ?_)
    replace hf := bnd_s hf ez
    clear ez
    refine lv_istore_n (lv' := [(2, .int (Int32.ofInt z4)), (0, .ref a_p0), (1, .int (Int32.ofInt x1))]) hx hb dX4_stirsOfDay_23 rfl hl (by decide) rfl (fun ls hl => ?_)
    refine lv_iload_n hx hb dX4_stirsOfDay_24 rfl (lv_at hl 0 rfl) ?_
    have hr4 := ck_c hf
    replace hf := ck_r hf
    refine lv_if_eq (tgt := 44) hx hb dX4_stirsOfDay_25 (by decide) (fun cc => ?_) (fun cc => ?_)
    ·
      replace hf := ite_t ((z_eq0 hr4).mp cc) hf
      clear cc
      refine lv_iconst (v := Int32.ofInt (0 : Int)) hx hb dX4_stirsOfDay_44 (by decide) ?_
      obtain ⟨rfl, rfl, rfl, rfl⟩ := ou4 hf
      rw [hQ]
      exact W.iret hx hb hr (fun t ht hW => ⟨⟨_, (), rfl, rfl, by rw [ht]; exact hP, va_K.moved hW.alike hK, hD⟩, hS.F ht⟩) hS.2.2 dX4_stirsOfDay_45
    ·
      replace hf := ite_f (fun h9 => cc ((z_eq0 hr4).mpr h9)) hf
      clear cc
      refine lv_aload_n hx hb dX4_stirsOfDay_28 rfl (lv_at hl 1 rfl) ?_
      have hq := bd4_s hf
      clear hf
      obtain ⟨z6, w7, w8, w9, hcall, hf⟩ := hq
      refine gcI (ws' := [(a_p0, .inr (4, [.ref a_p0_kitchen, .ref a_p0_fitting])), (a_p0_kitchen, .inr (2, [.ref a_p0_kitchen_rules, .ref a_p0_kitchen_state, .ref a_p0_kitchen_places, .ref a_p0_kitchen_holders, .ref a_p0_kitchen_stirred])), (a_p0_kitchen_rules, .inr (6, [.int (Int32.ofInt i_p0_kitchen_rules_seats), .int (Int32.ofInt i_p0_kitchen_rules_stirs), .ref a_p0_kitchen_rules_need, .ref a_p0_kitchen_rules_kind, .ref a_p0_kitchen_rules_first, .ref a_p0_kitchen_rules_second, .ref a_p0_kitchen_rules_after])), (a_p0_kitchen_rules_after, .inl (G 1, 35, .inl (zA v_p0_kitchen_rules_after))), (a_p0_kitchen_state, .inr (8, [.ref a_p0_kitchen_state_pieces, .ref a_p0_kitchen_state_friends, .ref a_p0_kitchen_state_spoons, .ref a_p0_kitchen_state_eaten, .ref a_p0_kitchen_state_seen, .int (Int32.ofInt i_p0_kitchen_state_seenDays), .int (Int32.ofInt i_p0_kitchen_state_bone), .int (Int32.ofInt i_p0_kitchen_state_king), .int (Int32.ofInt i_p0_kitchen_state_days)])), (a_p0_kitchen_state_friends, .inl (G 1, 7, .inl (zA v_p0_kitchen_state_friends))), (a_p0_kitchen_state_seen, .inl (G 1, 6, .inl (zA v_p0_kitchen_state_seen))), (a_p0_kitchen_places, .inl (G 1, 49, .inl (zA w7))), (a_p0_kitchen_holders, .inl (G 1, 49, .inl (zA w8))), (a_p0_fitting, .inl (G 1, 6, .inl (zA w9)))]) (va_runV (As := []) (rest := []) ⟨hx, hb, hml, hown, hts⟩ (c_X4_howMany (l := l) (D := D) (G := G) (sz := H.size) (a_p0 := a_p0) (a_p0_kitchen := a_p0_kitchen) (a_p0_fitting := a_p0_fitting) (a_p0_kitchen_rules := a_p0_kitchen_rules) (a_p0_kitchen_state := a_p0_kitchen_state) (a_p0_kitchen_places := a_p0_kitchen_places) (a_p0_kitchen_holders := a_p0_kitchen_holders) (a_p0_kitchen_stirred := a_p0_kitchen_stirred) (a_p0_kitchen_rules_need := a_p0_kitchen_rules_need) (a_p0_kitchen_rules_kind := a_p0_kitchen_rules_kind) (a_p0_kitchen_rules_first := a_p0_kitchen_rules_first) (a_p0_kitchen_rules_second := a_p0_kitchen_rules_second) (a_p0_kitchen_rules_after := a_p0_kitchen_rules_after) (a_p0_kitchen_state_pieces := a_p0_kitchen_state_pieces) (a_p0_kitchen_state_friends := a_p0_kitchen_state_friends) (a_p0_kitchen_state_spoons := a_p0_kitchen_state_spoons) (a_p0_kitchen_state_eaten := a_p0_kitchen_state_eaten) (a_p0_kitchen_state_seen := a_p0_kitchen_state_seen) (i_p0_kitchen_rules_seats := i_p0_kitchen_rules_seats) (i_p0_kitchen_rules_stirs := i_p0_kitchen_rules_stirs) (v_p0_kitchen_rules_after := v_p0_kitchen_rules_after) (i_p0_kitchen_state_seenDays := i_p0_kitchen_state_seenDays) (i_p0_kitchen_state_bone := i_p0_kitchen_state_bone) (i_p0_kitchen_state_king := i_p0_kitchen_state_king) (i_p0_kitchen_state_days := i_p0_kitchen_state_days) (v_p0_kitchen_state_friends := v_p0_kitchen_state_friends) (v_p0_kitchen_state_seen := v_p0_kitchen_state_seen) (v_p0_kitchen_places := v_p0_kitchen_places) (v_p0_kitchen_holders := v_p0_kitchen_holders) (v_p0_fitting := v_p0_fitting) (r := z6) (o_v_p0_kitchen_places := w7) (o_v_p0_kitchen_holders := w8) (o_v_p0_fitting := w9) (hf := hcall)) (cwV 0 hts gX4_stirsOfDay_X4_howMany rfl rfl rfl hdV_yX4_howMany_RX4 ⟨Nat.le_of_ble_eq_true rfl, Nat.le_of_ble_eq_true rfl⟩) (preG_V (ci := 4) (q := (RX4, TX4, 2)) (hP.sub [0, 1, 2, 3, 4, 5, 6, 7, 8, 9] rfl) (hD.sub [0, 1, 2, 3, 4, 5, 6, 7, 8, 9] rfl rfl) hK rfl rfl) rfl rfl hl.1 rfl (lv_room (Nat.le_of_ble_eq_true rfl)) dX4_stirsOfDay_29 ⟨Nat.le_of_ble_eq_true rfl, Nat.le_of_ble_eq_true rfl⟩) hP hD hS hA [0, 1, 2, 3, 4, 5, 6, 7, 8, 9] [] [0, 1, 2, 3, 4, 5, 6, 7, 8, 9] rfl rfl rfl (by decide) rfl rfl rfl (fun H locs hP hD hS => ?_)
      clear hcall
      have hr9 := ck_c hf
      replace hf := ck_r hf
      refine lv_if_le (tgt := 44) hx hb dX4_stirsOfDay_32 (by decide) (fun cc => ?_) (fun cc => ?_)
      ·
        replace hf := ite_t ((z_le0 hr9).mp cc) hf
        clear cc
        refine lv_iconst (v := Int32.ofInt (0 : Int)) hx hb dX4_stirsOfDay_44 (by decide) ?_
        obtain ⟨rfl, rfl, rfl, rfl⟩ := ou4 hf
        rw [hQ]
        exact W.iret hx hb hr (fun t ht hW => ⟨⟨_, (), rfl, rfl, by rw [ht]; exact hP, va_K.moved hW.alike hK, hD⟩, hS.F ht⟩) hS.2.2 dX4_stirsOfDay_45
      ·
        replace hf := ite_f (fun h9 => cc ((z_le0 hr9).mpr h9)) hf
        clear cc
        refine lv_aload_n hx hb dX4_stirsOfDay_35 rfl (lv_at hl 1 rfl) ?_
        refine va_get (D := D) (ci := 4) (v := .ref a_p0_fitting) (C := RX4) (T := TX4) (N := 2) hx hb hts inX4_stirsOfDay_X4 hown hK hP 0 rfl rfl 1 (by decide) (hts _ mwX4_stirsOfDay_2) (fun _ h9 => h9) rfl dX4_stirsOfDay_36 ?_
        refine lv_iload_n hx hb dX4_stirsOfDay_39 rfl (lv_at hl 2 rfl) ?_
        have hc := ck_c hf
        replace hf := ck_r hf
        refine va_iald hx hb hK hP 9 1 rfl rfl (z_ix_in hc) dX4_stirsOfDay_40 (z_ci (z_ald w9 hc) ?_)
        clear hc
        refine lv_goto (tgt := 45) hx hb dX4_stirsOfDay_41 (by decide) ?_
        obtain ⟨rfl, rfl, rfl, rfl⟩ := ou4 hf
        rw [hQ]
        exact W.iret hx hb hr (fun t ht hW => ⟨⟨_, (), rfl, rfl, by rw [ht]; exact hP, va_K.moved hW.alike hK, hD⟩, hS.F ht⟩) hS.2.2 dX4_stirsOfDay_45
  have hq := jn_i hf
  clear hf
  obtain ⟨J11, eJ11, hf⟩ := hq
  have hJ11 : ∀  (ls : Array Slot) (H : Heap) (locs : List Loc), lv_has ls 3 [(0, .ref a_p0), (1, .int (Int32.ofInt x1))] → va_P D vwCl [(a_p0, .inr (4, [.ref a_p0_kitchen, .ref a_p0_fitting])), (a_p0_kitchen, .inr (2, [.ref a_p0_kitchen_rules, .ref a_p0_kitchen_state, .ref a_p0_kitchen_places, .ref a_p0_kitchen_holders, .ref a_p0_kitchen_stirred])), (a_p0_kitchen_rules, .inr (6, [.int (Int32.ofInt i_p0_kitchen_rules_seats), .int (Int32.ofInt i_p0_kitchen_rules_stirs), .ref a_p0_kitchen_rules_need, .ref a_p0_kitchen_rules_kind, .ref a_p0_kitchen_rules_first, .ref a_p0_kitchen_rules_second, .ref a_p0_kitchen_rules_after])), (a_p0_kitchen_rules_after, .inl (G 1, 35, .inl (zA v_p0_kitchen_rules_after))), (a_p0_kitchen_state, .inr (8, [.ref a_p0_kitchen_state_pieces, .ref a_p0_kitchen_state_friends, .ref a_p0_kitchen_state_spoons, .ref a_p0_kitchen_state_eaten, .ref a_p0_kitchen_state_seen, .int (Int32.ofInt i_p0_kitchen_state_seenDays), .int (Int32.ofInt i_p0_kitchen_state_bone), .int (Int32.ofInt i_p0_kitchen_state_king), .int (Int32.ofInt i_p0_kitchen_state_days)])), (a_p0_kitchen_state_friends, .inl (G 1, 7, .inl (zA v_p0_kitchen_state_friends))), (a_p0_kitchen_state_seen, .inl (G 1, 6, .inl (zA v_p0_kitchen_state_seen))), (a_p0_kitchen_places, .inl (G 1, 49, .inl (zA v_p0_kitchen_places))), (a_p0_kitchen_holders, .inl (G 1, 49, .inl (zA v_p0_kitchen_holders))), (a_p0_fitting, .inl (G 1, 6, .inl (zA v_p0_fitting)))] H → va_D A [(a_p0, .inr (4, [.ref a_p0_kitchen, .ref a_p0_fitting])), (a_p0_kitchen, .inr (2, [.ref a_p0_kitchen_rules, .ref a_p0_kitchen_state, .ref a_p0_kitchen_places, .ref a_p0_kitchen_holders, .ref a_p0_kitchen_stirred])), (a_p0_kitchen_rules, .inr (6, [.int (Int32.ofInt i_p0_kitchen_rules_seats), .int (Int32.ofInt i_p0_kitchen_rules_stirs), .ref a_p0_kitchen_rules_need, .ref a_p0_kitchen_rules_kind, .ref a_p0_kitchen_rules_first, .ref a_p0_kitchen_rules_second, .ref a_p0_kitchen_rules_after])), (a_p0_kitchen_rules_after, .inl (G 1, 35, .inl (zA v_p0_kitchen_rules_after))), (a_p0_kitchen_state, .inr (8, [.ref a_p0_kitchen_state_pieces, .ref a_p0_kitchen_state_friends, .ref a_p0_kitchen_state_spoons, .ref a_p0_kitchen_state_eaten, .ref a_p0_kitchen_state_seen, .int (Int32.ofInt i_p0_kitchen_state_seenDays), .int (Int32.ofInt i_p0_kitchen_state_bone), .int (Int32.ofInt i_p0_kitchen_state_king), .int (Int32.ofInt i_p0_kitchen_state_days)])), (a_p0_kitchen_state_friends, .inl (G 1, 7, .inl (zA v_p0_kitchen_state_friends))), (a_p0_kitchen_state_seen, .inl (G 1, 6, .inl (zA v_p0_kitchen_state_seen))), (a_p0_kitchen_places, .inl (G 1, 49, .inl (zA v_p0_kitchen_places))), (a_p0_kitchen_holders, .inl (G 1, 49, .inl (zA v_p0_kitchen_holders))), (a_p0_fitting, .inl (G 1, 6, .inl (zA v_p0_fitting)))] → va_S A s.heap H locs → J11  = some (r, o_v_p0_kitchen_places, o_v_p0_kitchen_holders, o_v_p0_fitting) → W p l e rm_X4_stirsOfDay s m ([.ref a_p0, .int (Int32.ofInt x1)] : List Value).toArray below meth c H locs 0 0 Q (F0 m 22 ls []) := by
    clear hf hl hP hD hS
    intro  ls H locs hl hP hD hS hf
    replace hf := jn0_s eJ11 hf
    refine lv_iconst (v := Int32.ofInt (0 : Int)) hx hb dX4_stirsOfDay_22 (by decide) ?_
    exact hJ3 _ _ _ _ (lv_sub hl [0, 1] rfl) hP hD hS hf
  refine lv_if_lt (tgt := 22) hx hb dX4_stirsOfDay_1 (by decide) (fun cc => ?_) (fun cc => ?_)
  ·
    replace hf := ite_t ((z_lt0 hr0).mp cc) hf
    clear cc
    exact hJ11  _ _ _ (lv_sub hl [0, 1] rfl) hP hD hS hf
  ·
    replace hf := ite_f (fun h9 => cc ((z_lt0 hr0).mpr h9)) hf
    clear cc
    refine lv_iload_n hx hb dX4_stirsOfDay_4 rfl (lv_at hl 1 rfl) ?_
    refine lv_aload_n hx hb dX4_stirsOfDay_5 rfl (lv_at hl 0 rfl) ?_
    refine va_get (D := D) (ci := 4) (v := .ref a_p0_kitchen) (C := RX4) (T := TX4) (N := 2) hx hb hts inX4_stirsOfDay_X4 hown hK hP 0 rfl rfl 0 (by decide) (hts _ mwX4_stirsOfDay_3) (fun _ h9 => h9) rfl dX4_stirsOfDay_6 ?_
    refine va_get (D := D) (ci := 2) (v := .ref a_p0_kitchen_state) (C := RX2) (T := TX2) (N := 5) hx hb hts inX4_stirsOfDay_X2 hown hK hP 1 rfl rfl 1 (by decide) (hts _ mwX4_stirsOfDay_5) (fun _ h9 => h9) rfl dX4_stirsOfDay_9 ?_
    refine va_get (D := D) (ci := 8) (v := .int (Int32.ofInt i_p0_kitchen_state_seenDays)) (C := RX8) (T := TX8) (N := 9) hx hb hts inX4_stirsOfDay_X8 hown hK hP 4 rfl rfl 5 (by decide) (hts _ mwX4_stirsOfDay_7) (fun _ h9 => h9) rfl dX4_stirsOfDay_12 ?_
    have hr11 := ck_c hf
    replace hf := ck_r hf
    refine lv_icmp_ge (tgt := 22) hx hb dX4_stirsOfDay_15 (by decide) (fun cc => ?_) (fun cc => ?_)
    ·
      replace hf := ite_t ((z_le hr11 hr0).mp cc) hf
      clear cc
      exact hJ11  _ _ _ (lv_sub hl [0, 1] rfl) hP hD hS hf
    ·
      replace hf := ite_f (fun h9 => cc ((z_le hr11 hr0).mpr h9)) hf
      clear cc
      refine lv_iconst (v := Int32.ofInt (1 : Int)) hx hb dX4_stirsOfDay_18 (by decide) ?_
      refine lv_goto (tgt := 23) hx hb dX4_stirsOfDay_19 (by decide) ?_
      exact hJ3 _ _ _ _ (lv_sub hl [0, 1] rfl) hP hD hS hf

noncomputable def B_X4_firstStirOfDay_8 (i_p0_kitchen_rules_stirs : Int) (w2 : (Int → Int)) (w3 : (Int → Int)) (w4 : (Int → Int)) (z5 : Int) (again8 : Int → Option (Int × (Int → Int) × (Int → Int) × (Int → Int))) (z7 : Int) : Option (Int × (Int → Int) × (Int → Int) × (Int → Int)) := (ck (z_r32 z7) (ck (z_r32 i_p0_kitchen_rules_stirs) (if i_p0_kitchen_rules_stirs ≤ z7 then (some ((-4 : Int), w2, w3, w4)) else (ck (z_r32 (z_and (z_shr z5 z7) (1 : Int))) (if (z_and (z_shr z5 z7) (1 : Int)) = (0 : Int) then (bnd (z7 + (1 : Int)) (fun (z12 : Int) => (again8 z12))) else (some (z7, w2, w3, w4)))))))
noncomputable def f_X4_firstStirOfDay (i_p0_kitchen_rules_seats : Int) (i_p0_kitchen_rules_stirs : Int) (v_p0_kitchen_rules_after : (Int → Int)) (i_p0_kitchen_state_seenDays : Int) (i_p0_kitchen_state_bone : Int) (i_p0_kitchen_state_king : Int) (v_p0_kitchen_state_friends : (Int → Int)) (v_p0_kitchen_state_seen : (Int → Int)) (v_p0_kitchen_places : (Int → Int)) (v_p0_kitchen_holders : (Int → Int)) (v_p0_fitting : (Int → Int)) (x1 : Int) : Option (Int × (Int → Int) × (Int → Int) × (Int → Int)) := (bd4 (f_X4_stirsOfDay i_p0_kitchen_rules_seats i_p0_kitchen_rules_stirs v_p0_kitchen_rules_after i_p0_kitchen_state_seenDays i_p0_kitchen_state_bone i_p0_kitchen_state_king v_p0_kitchen_state_friends v_p0_kitchen_state_seen v_p0_kitchen_places v_p0_kitchen_holders v_p0_fitting x1) (fun (z1 : Int) (w2 : (Int → Int)) (w3 : (Int → Int)) (w4 : (Int → Int)) => (bnd z1 (fun (z5 : Int) => (bnd (0 : Int) (fun (z6 : Int) => (lq1 (B_X4_firstStirOfDay_8 i_p0_kitchen_rules_stirs w2 w3 w4 z5) 1000 z6)))))))
abbrev rm_X4_firstStirOfDay : Room := { frames := 4, cells := 0, slots := 0, locals := 97 }
theorem hdV_yX4_stirsOfDay_RX4 : yX4_stirsOfDay.cls = RX4 ∧ yX4_stirsOfDay.cls ≠ "java/lang/invoke/MethodHandle" ∧ yX4_stirsOfDay.cls ≠ "java/lang/invoke/VarHandle" ∧ (parseMethodDescriptor yX4_stirsOfDay.desc).map (fun d => d.parameters.length) = some 1 := by decide +kernel
theorem inX4_firstStirOfDay_X4 : ∀ w ∈ wsX40, w ∈ wsX4_firstStirOfDay := by first | exact fun w h => List.mem_cons_of_mem _ (List.mem_append_left _ (List.mem_append_left _ (List.mem_append_left _ (List.mem_append_right _ h)))) | decide +kernel
theorem mwX4_firstStirOfDay_2 : Cond.fieldLink RX4 15 "LadleKings$Past" "kitchen" "LLadleKings$Kitchen;" ∈ wsX4_firstStirOfDay := by first | exact List.mem_of_getElem? (i := 1) rfl | decide +kernel
theorem inX4_firstStirOfDay_X2 : ∀ w ∈ wsX20, w ∈ wsX4_firstStirOfDay := by first | exact fun w h => List.mem_cons_of_mem _ (List.mem_append_left _ (List.mem_append_left _ (List.mem_append_right _ h))) | decide +kernel
theorem mwX4_firstStirOfDay_4 : Cond.fieldLink RX4 57 "LadleKings$Kitchen" "rules" "LLadleKings$Rules;" ∈ wsX4_firstStirOfDay := by first | exact List.mem_of_getElem? (i := 2) rfl | decide +kernel
theorem inX4_firstStirOfDay_X6 : ∀ w ∈ wsX60, w ∈ wsX4_firstStirOfDay := by first | exact fun w h => List.mem_cons_of_mem _ (List.mem_append_left _ (List.mem_append_right _ h)) | decide +kernel
theorem mwX4_firstStirOfDay_6 : Cond.fieldLink RX4 61 "LadleKings$Rules" "stirs" "I" ∈ wsX4_firstStirOfDay := by first | exact List.mem_of_getElem? (i := 3) rfl | decide +kernel
set_option maxHeartbeats 8000000 in
set_option maxRecDepth 100000 in
theorem c_X4_firstStirOfDay (l : Launch) (D : va_G) (G : Nat → ClassId) (sz : Nat) (a_p0 : Nat) (a_p0_kitchen : Nat) (a_p0_fitting : Nat) (a_p0_kitchen_rules : Nat) (a_p0_kitchen_state : Nat) (a_p0_kitchen_places : Nat) (a_p0_kitchen_holders : Nat) (a_p0_kitchen_stirred : Nat) (a_p0_kitchen_rules_need : Nat) (a_p0_kitchen_rules_kind : Nat) (a_p0_kitchen_rules_first : Nat) (a_p0_kitchen_rules_second : Nat) (a_p0_kitchen_rules_after : Nat) (a_p0_kitchen_state_pieces : Nat) (a_p0_kitchen_state_friends : Nat) (a_p0_kitchen_state_spoons : Nat) (a_p0_kitchen_state_eaten : Nat) (a_p0_kitchen_state_seen : Nat) (i_p0_kitchen_rules_seats : Int) (i_p0_kitchen_rules_stirs : Int) (v_p0_kitchen_rules_after : (Int → Int)) (i_p0_kitchen_state_seenDays : Int) (i_p0_kitchen_state_bone : Int) (i_p0_kitchen_state_king : Int) (i_p0_kitchen_state_days : Int) (v_p0_kitchen_state_friends : (Int → Int)) (v_p0_kitchen_state_seen : (Int → Int)) (v_p0_kitchen_places : (Int → Int)) (v_p0_kitchen_holders : (Int → Int)) (v_p0_fitting : (Int → Int)) (x1 : Int) (r : Int) (o_v_p0_kitchen_places : (Int → Int)) (o_v_p0_kitchen_holders : (Int → Int)) (o_v_p0_fitting : (Int → Int)) (hf : f_X4_firstStirOfDay i_p0_kitchen_rules_seats i_p0_kitchen_rules_stirs v_p0_kitchen_rules_after i_p0_kitchen_state_seenDays i_p0_kitchen_state_bone i_p0_kitchen_state_king v_p0_kitchen_state_friends v_p0_kitchen_state_seen v_p0_kitchen_places v_p0_kitchen_holders v_p0_fitting x1 = some (r, o_v_p0_kitchen_places, o_v_p0_kitchen_holders, o_v_p0_fitting)) : Met l yX4_firstStirOfDay wsX4_firstStirOfDay rm_X4_firstStirOfDay (pcG D G [.ref a_p0, .int (Int32.ofInt x1)] sz [(a_p0, .inr (4, [.ref a_p0_kitchen, .ref a_p0_fitting])), (a_p0_kitchen, .inr (2, [.ref a_p0_kitchen_rules, .ref a_p0_kitchen_state, .ref a_p0_kitchen_places, .ref a_p0_kitchen_holders, .ref a_p0_kitchen_stirred])), (a_p0_kitchen_rules, .inr (6, [.int (Int32.ofInt i_p0_kitchen_rules_seats), .int (Int32.ofInt i_p0_kitchen_rules_stirs), .ref a_p0_kitchen_rules_need, .ref a_p0_kitchen_rules_kind, .ref a_p0_kitchen_rules_first, .ref a_p0_kitchen_rules_second, .ref a_p0_kitchen_rules_after])), (a_p0_kitchen_rules_after, .inl (G 1, 35, .inl (zA v_p0_kitchen_rules_after))), (a_p0_kitchen_state, .inr (8, [.ref a_p0_kitchen_state_pieces, .ref a_p0_kitchen_state_friends, .ref a_p0_kitchen_state_spoons, .ref a_p0_kitchen_state_eaten, .ref a_p0_kitchen_state_seen, .int (Int32.ofInt i_p0_kitchen_state_seenDays), .int (Int32.ofInt i_p0_kitchen_state_bone), .int (Int32.ofInt i_p0_kitchen_state_king), .int (Int32.ofInt i_p0_kitchen_state_days)])), (a_p0_kitchen_state_friends, .inl (G 1, 7, .inl (zA v_p0_kitchen_state_friends))), (a_p0_kitchen_state_seen, .inl (G 1, 6, .inl (zA v_p0_kitchen_state_seen))), (a_p0_kitchen_places, .inl (G 1, 49, .inl (zA v_p0_kitchen_places))), (a_p0_kitchen_holders, .inl (G 1, 49, .inl (zA v_p0_kitchen_holders))), (a_p0_fitting, .inl (G 1, 6, .inl (zA v_p0_fitting)))]) (qcI D G (Int32.ofInt r) [(a_p0, .inr (4, [.ref a_p0_kitchen, .ref a_p0_fitting])), (a_p0_kitchen, .inr (2, [.ref a_p0_kitchen_rules, .ref a_p0_kitchen_state, .ref a_p0_kitchen_places, .ref a_p0_kitchen_holders, .ref a_p0_kitchen_stirred])), (a_p0_kitchen_rules, .inr (6, [.int (Int32.ofInt i_p0_kitchen_rules_seats), .int (Int32.ofInt i_p0_kitchen_rules_stirs), .ref a_p0_kitchen_rules_need, .ref a_p0_kitchen_rules_kind, .ref a_p0_kitchen_rules_first, .ref a_p0_kitchen_rules_second, .ref a_p0_kitchen_rules_after])), (a_p0_kitchen_rules_after, .inl (G 1, 35, .inl (zA v_p0_kitchen_rules_after))), (a_p0_kitchen_state, .inr (8, [.ref a_p0_kitchen_state_pieces, .ref a_p0_kitchen_state_friends, .ref a_p0_kitchen_state_spoons, .ref a_p0_kitchen_state_eaten, .ref a_p0_kitchen_state_seen, .int (Int32.ofInt i_p0_kitchen_state_seenDays), .int (Int32.ofInt i_p0_kitchen_state_bone), .int (Int32.ofInt i_p0_kitchen_state_king), .int (Int32.ofInt i_p0_kitchen_state_days)])), (a_p0_kitchen_state_friends, .inl (G 1, 7, .inl (zA v_p0_kitchen_state_friends))), (a_p0_kitchen_state_seen, .inl (G 1, 6, .inl (zA v_p0_kitchen_state_seen))), (a_p0_kitchen_places, .inl (G 1, 49, .inl (zA o_v_p0_kitchen_places))), (a_p0_kitchen_holders, .inl (G 1, 49, .inl (zA o_v_p0_kitchen_holders))), (a_p0_fitting, .inl (G 1, 6, .inl (zA o_v_p0_fitting)))] (va_A [(a_p0, .inr (4, [.ref a_p0_kitchen, .ref a_p0_fitting])), (a_p0_kitchen, .inr (2, [.ref a_p0_kitchen_rules, .ref a_p0_kitchen_state, .ref a_p0_kitchen_places, .ref a_p0_kitchen_holders, .ref a_p0_kitchen_stirred])), (a_p0_kitchen_rules, .inr (6, [.int (Int32.ofInt i_p0_kitchen_rules_seats), .int (Int32.ofInt i_p0_kitchen_rules_stirs), .ref a_p0_kitchen_rules_need, .ref a_p0_kitchen_rules_kind, .ref a_p0_kitchen_rules_first, .ref a_p0_kitchen_rules_second, .ref a_p0_kitchen_rules_after])), (a_p0_kitchen_rules_after, .inl (G 1, 35, .inl (zA v_p0_kitchen_rules_after))), (a_p0_kitchen_state, .inr (8, [.ref a_p0_kitchen_state_pieces, .ref a_p0_kitchen_state_friends, .ref a_p0_kitchen_state_spoons, .ref a_p0_kitchen_state_eaten, .ref a_p0_kitchen_state_seen, .int (Int32.ofInt i_p0_kitchen_state_seenDays), .int (Int32.ofInt i_p0_kitchen_state_bone), .int (Int32.ofInt i_p0_kitchen_state_king), .int (Int32.ofInt i_p0_kitchen_state_days)])), (a_p0_kitchen_state_friends, .inl (G 1, 7, .inl (zA v_p0_kitchen_state_friends))), (a_p0_kitchen_state_seen, .inl (G 1, 6, .inl (zA v_p0_kitchen_state_seen))), (a_p0_kitchen_places, .inl (G 1, 49, .inl (zA v_p0_kitchen_places))), (a_p0_kitchen_holders, .inl (G 1, 49, .inl (zA v_p0_kitchen_holders))), (a_p0_fitting, .inl (G 1, 6, .inl (zA v_p0_fitting)))] sz)) 0 0 (va_A [(a_p0, .inr (4, [.ref a_p0_kitchen, .ref a_p0_fitting])), (a_p0_kitchen, .inr (2, [.ref a_p0_kitchen_rules, .ref a_p0_kitchen_state, .ref a_p0_kitchen_places, .ref a_p0_kitchen_holders, .ref a_p0_kitchen_stirred])), (a_p0_kitchen_rules, .inr (6, [.int (Int32.ofInt i_p0_kitchen_rules_seats), .int (Int32.ofInt i_p0_kitchen_rules_stirs), .ref a_p0_kitchen_rules_need, .ref a_p0_kitchen_rules_kind, .ref a_p0_kitchen_rules_first, .ref a_p0_kitchen_rules_second, .ref a_p0_kitchen_rules_after])), (a_p0_kitchen_rules_after, .inl (G 1, 35, .inl (zA v_p0_kitchen_rules_after))), (a_p0_kitchen_state, .inr (8, [.ref a_p0_kitchen_state_pieces, .ref a_p0_kitchen_state_friends, .ref a_p0_kitchen_state_spoons, .ref a_p0_kitchen_state_eaten, .ref a_p0_kitchen_state_seen, .int (Int32.ofInt i_p0_kitchen_state_seenDays), .int (Int32.ofInt i_p0_kitchen_state_bone), .int (Int32.ofInt i_p0_kitchen_state_king), .int (Int32.ofInt i_p0_kitchen_state_days)])), (a_p0_kitchen_state_friends, .inl (G 1, 7, .inl (zA v_p0_kitchen_state_friends))), (a_p0_kitchen_state_seen, .inl (G 1, 6, .inl (zA v_p0_kitchen_state_seen))), (a_p0_kitchen_places, .inl (G 1, 49, .inl (zA v_p0_kitchen_places))), (a_p0_kitchen_holders, .inl (G 1, 49, .inl (zA v_p0_kitchen_holders))), (a_p0_fitting, .inl (G 1, 6, .inl (zA v_p0_fitting)))] sz) := by
  refine Met.ofW (cc := cX4_firstStirOfDay) (maxL := 4) (ret := (some .int)) (by decide) rfl ?_
  intro p e s m args below meth c s₁ B hml hv
  obtain ⟨rfl, hsz, hP, hK, hD0⟩ := hv
  have hx := B.exec
  have hb := B.bytes
  have hr := B.returns
  have hts := atoms_spec (ws := wsX4_firstStirOfDay) B.pre
  have hown : s.vm.findClass RX4 = some m.cls := findClass_of_methodNamed B.named
  have hlocks := B.notSynchronized
  subst hsz
  have hD := hD0.self (sz := s.heap.size)
  generalize hAe : va_A [(a_p0, .inr (4, [.ref a_p0_kitchen, .ref a_p0_fitting])), (a_p0_kitchen, .inr (2, [.ref a_p0_kitchen_rules, .ref a_p0_kitchen_state, .ref a_p0_kitchen_places, .ref a_p0_kitchen_holders, .ref a_p0_kitchen_stirred])), (a_p0_kitchen_rules, .inr (6, [.int (Int32.ofInt i_p0_kitchen_rules_seats), .int (Int32.ofInt i_p0_kitchen_rules_stirs), .ref a_p0_kitchen_rules_need, .ref a_p0_kitchen_rules_kind, .ref a_p0_kitchen_rules_first, .ref a_p0_kitchen_rules_second, .ref a_p0_kitchen_rules_after])), (a_p0_kitchen_rules_after, .inl (G 1, 35, .inl (zA v_p0_kitchen_rules_after))), (a_p0_kitchen_state, .inr (8, [.ref a_p0_kitchen_state_pieces, .ref a_p0_kitchen_state_friends, .ref a_p0_kitchen_state_spoons, .ref a_p0_kitchen_state_eaten, .ref a_p0_kitchen_state_seen, .int (Int32.ofInt i_p0_kitchen_state_seenDays), .int (Int32.ofInt i_p0_kitchen_state_bone), .int (Int32.ofInt i_p0_kitchen_state_king), .int (Int32.ofInt i_p0_kitchen_state_days)])), (a_p0_kitchen_state_friends, .inl (G 1, 7, .inl (zA v_p0_kitchen_state_friends))), (a_p0_kitchen_state_seen, .inl (G 1, 6, .inl (zA v_p0_kitchen_state_seen))), (a_p0_kitchen_places, .inl (G 1, 49, .inl (zA v_p0_kitchen_places))), (a_p0_kitchen_holders, .inl (G 1, 49, .inl (zA v_p0_kitchen_holders))), (a_p0_fitting, .inl (G 1, 6, .inl (zA v_p0_fitting)))] s.heap.size = A at hD ⊢
  have hA : ∀ q : Nat, s.heap.size ≤ q → A q := fun q h => by rw [← hAe]; exact Or.inr h
  clear hAe hD0
  have hS : va_S A s.heap s.heap [] := va_S.rf
  have hl := lv_entry ([.ref a_p0, .int (Int32.ofInt x1)]) (n := 4) (Nat.le_of_ble_eq_true rfl)
  rw [lg_entry_eq]
  generalize (lg_sl ([.ref a_p0, .int (Int32.ofInt x1)]) ++ List.replicate (4 - (lg_sl ([.ref a_p0, .int (Int32.ofInt x1)])).length) Slot.unset).toArray = ls at hl ⊢
  have hl : lv_has ls 4 [(0, .ref a_p0), (1, .int (Int32.ofInt x1))] := hl
  refine W_nameQ (fun Q hQ => ?_)
  obtain ⟨H, hH⟩ : ∃ H, H = s.heap := ⟨_, rfl⟩
  replace hS : va_S A s.heap H [] := by rw [hH]; exact hS
  replace hP : va_P D vwCl [(a_p0, .inr (4, [.ref a_p0_kitchen, .ref a_p0_fitting])), (a_p0_kitchen, .inr (2, [.ref a_p0_kitchen_rules, .ref a_p0_kitchen_state, .ref a_p0_kitchen_places, .ref a_p0_kitchen_holders, .ref a_p0_kitchen_stirred])), (a_p0_kitchen_rules, .inr (6, [.int (Int32.ofInt i_p0_kitchen_rules_seats), .int (Int32.ofInt i_p0_kitchen_rules_stirs), .ref a_p0_kitchen_rules_need, .ref a_p0_kitchen_rules_kind, .ref a_p0_kitchen_rules_first, .ref a_p0_kitchen_rules_second, .ref a_p0_kitchen_rules_after])), (a_p0_kitchen_rules_after, .inl (G 1, 35, .inl (zA v_p0_kitchen_rules_after))), (a_p0_kitchen_state, .inr (8, [.ref a_p0_kitchen_state_pieces, .ref a_p0_kitchen_state_friends, .ref a_p0_kitchen_state_spoons, .ref a_p0_kitchen_state_eaten, .ref a_p0_kitchen_state_seen, .int (Int32.ofInt i_p0_kitchen_state_seenDays), .int (Int32.ofInt i_p0_kitchen_state_bone), .int (Int32.ofInt i_p0_kitchen_state_king), .int (Int32.ofInt i_p0_kitchen_state_days)])), (a_p0_kitchen_state_friends, .inl (G 1, 7, .inl (zA v_p0_kitchen_state_friends))), (a_p0_kitchen_state_seen, .inl (G 1, 6, .inl (zA v_p0_kitchen_state_seen))), (a_p0_kitchen_places, .inl (G 1, 49, .inl (zA v_p0_kitchen_places))), (a_p0_kitchen_holders, .inl (G 1, 49, .inl (zA v_p0_kitchen_holders))), (a_p0_fitting, .inl (G 1, 6, .inl (zA v_p0_fitting)))] H := by rw [hH]; exact hP
  rw [← hH]
  clear hH
  unfold f_X4_firstStirOfDay at hf
  refine lv_aload_n hx hb dX4_firstStirOfDay_0 rfl (lv_at hl 0 rfl) ?_
  refine lv_iload_n hx hb dX4_firstStirOfDay_1 rfl (lv_at hl 1 rfl) ?_
  have hq := bd4_s hf
  clear hf
  obtain ⟨z1, w2, w3, w4, hcall, hf⟩ := hq
  refine gcI (ws' := [(a_p0, .inr (4, [.ref a_p0_kitchen, .ref a_p0_fitting])), (a_p0_kitchen, .inr (2, [.ref a_p0_kitchen_rules, .ref a_p0_kitchen_state, .ref a_p0_kitchen_places, .ref a_p0_kitchen_holders, .ref a_p0_kitchen_stirred])), (a_p0_kitchen_rules, .inr (6, [.int (Int32.ofInt i_p0_kitchen_rules_seats), .int (Int32.ofInt i_p0_kitchen_rules_stirs), .ref a_p0_kitchen_rules_need, .ref a_p0_kitchen_rules_kind, .ref a_p0_kitchen_rules_first, .ref a_p0_kitchen_rules_second, .ref a_p0_kitchen_rules_after])), (a_p0_kitchen_rules_after, .inl (G 1, 35, .inl (zA v_p0_kitchen_rules_after))), (a_p0_kitchen_state, .inr (8, [.ref a_p0_kitchen_state_pieces, .ref a_p0_kitchen_state_friends, .ref a_p0_kitchen_state_spoons, .ref a_p0_kitchen_state_eaten, .ref a_p0_kitchen_state_seen, .int (Int32.ofInt i_p0_kitchen_state_seenDays), .int (Int32.ofInt i_p0_kitchen_state_bone), .int (Int32.ofInt i_p0_kitchen_state_king), .int (Int32.ofInt i_p0_kitchen_state_days)])), (a_p0_kitchen_state_friends, .inl (G 1, 7, .inl (zA v_p0_kitchen_state_friends))), (a_p0_kitchen_state_seen, .inl (G 1, 6, .inl (zA v_p0_kitchen_state_seen))), (a_p0_kitchen_places, .inl (G 1, 49, .inl (zA w2))), (a_p0_kitchen_holders, .inl (G 1, 49, .inl (zA w3))), (a_p0_fitting, .inl (G 1, 6, .inl (zA w4)))]) (va_runV (As := [.int (Int32.ofInt x1)]) (rest := []) ⟨hx, hb, hml, hown, hts⟩ (c_X4_stirsOfDay (l := l) (D := D) (G := G) (sz := H.size) (a_p0 := a_p0) (a_p0_kitchen := a_p0_kitchen) (a_p0_fitting := a_p0_fitting) (a_p0_kitchen_rules := a_p0_kitchen_rules) (a_p0_kitchen_state := a_p0_kitchen_state) (a_p0_kitchen_places := a_p0_kitchen_places) (a_p0_kitchen_holders := a_p0_kitchen_holders) (a_p0_kitchen_stirred := a_p0_kitchen_stirred) (a_p0_kitchen_rules_need := a_p0_kitchen_rules_need) (a_p0_kitchen_rules_kind := a_p0_kitchen_rules_kind) (a_p0_kitchen_rules_first := a_p0_kitchen_rules_first) (a_p0_kitchen_rules_second := a_p0_kitchen_rules_second) (a_p0_kitchen_rules_after := a_p0_kitchen_rules_after) (a_p0_kitchen_state_pieces := a_p0_kitchen_state_pieces) (a_p0_kitchen_state_friends := a_p0_kitchen_state_friends) (a_p0_kitchen_state_spoons := a_p0_kitchen_state_spoons) (a_p0_kitchen_state_eaten := a_p0_kitchen_state_eaten) (a_p0_kitchen_state_seen := a_p0_kitchen_state_seen) (i_p0_kitchen_rules_seats := i_p0_kitchen_rules_seats) (i_p0_kitchen_rules_stirs := i_p0_kitchen_rules_stirs) (v_p0_kitchen_rules_after := v_p0_kitchen_rules_after) (i_p0_kitchen_state_seenDays := i_p0_kitchen_state_seenDays) (i_p0_kitchen_state_bone := i_p0_kitchen_state_bone) (i_p0_kitchen_state_king := i_p0_kitchen_state_king) (i_p0_kitchen_state_days := i_p0_kitchen_state_days) (v_p0_kitchen_state_friends := v_p0_kitchen_state_friends) (v_p0_kitchen_state_seen := v_p0_kitchen_state_seen) (v_p0_kitchen_places := v_p0_kitchen_places) (v_p0_kitchen_holders := v_p0_kitchen_holders) (v_p0_fitting := v_p0_fitting) (x1 := x1) (r := z1) (o_v_p0_kitchen_places := w2) (o_v_p0_kitchen_holders := w3) (o_v_p0_fitting := w4) (hf := hcall)) (cwV 1 hts gX4_firstStirOfDay_X4_stirsOfDay rfl rfl rfl hdV_yX4_stirsOfDay_RX4 ⟨Nat.le_of_ble_eq_true rfl, Nat.le_of_ble_eq_true rfl⟩) (preG_V (ci := 4) (q := (RX4, TX4, 2)) (hP.sub [0, 1, 2, 3, 4, 5, 6, 7, 8, 9] rfl) (hD.sub [0, 1, 2, 3, 4, 5, 6, 7, 8, 9] rfl rfl) hK rfl rfl) rfl rfl hl.1 rfl (lv_room (Nat.le_of_ble_eq_true rfl)) dX4_firstStirOfDay_2 ⟨Nat.le_of_ble_eq_true rfl, Nat.le_of_ble_eq_true rfl⟩) hP hD hS hA [0, 1, 2, 3, 4, 5, 6, 7, 8, 9] [] [0, 1, 2, 3, 4, 5, 6, 7, 8, 9] rfl rfl rfl (by decide) rfl rfl rfl (fun H locs hP hD hS => ?_)
  clear hcall
  refine z_topi (fun z5 ez => ?_)
  replace hf := bnd_s hf ez
  clear ez
  refine lv_istore_n (lv' := [(2, .int (Int32.ofInt z5)), (0, .ref a_p0), (1, .int (Int32.ofInt x1))]) hx hb dX4_firstStirOfDay_5 rfl hl (by decide) rfl (fun ls hl => ?_)
  refine lv_iconst (v := Int32.ofInt (0 : Int)) hx hb dX4_firstStirOfDay_6 (by decide) ?_
  refine z_topi (fun z6 ez => ?_)
  replace hf := bnd_s hf ez
  clear ez
  refine lv_istore_n (lv' := [(3, .int (Int32.ofInt z6)), (2, .int (Int32.ofInt z5)), (0, .ref a_p0), (1, .int (Int32.ofInt x1))]) hx hb dX4_firstStirOfDay_7 rfl hl (by decide) rfl (fun ls hl => ?_)
  have hq := lq1_i hf
  clear hf
  obtain ⟨B8, eB8, NB8, hf⟩ := hq
  have hB8 : ∀ (n : Nat) (z7 : Int) (ls : Array Slot) (H : Heap) (locs : List Loc), lv_has ls 4 [(3, .int (Int32.ofInt z7)), (2, .int (Int32.ofInt z5)), (0, .ref a_p0)] → va_P D vwCl [(a_p0, .inr (4, [.ref a_p0_kitchen, .ref a_p0_fitting])), (a_p0_kitchen, .inr (2, [.ref a_p0_kitchen_rules, .ref a_p0_kitchen_state, .ref a_p0_kitchen_places, .ref a_p0_kitchen_holders, .ref a_p0_kitchen_stirred])), (a_p0_kitchen_rules, .inr (6, [.int (Int32.ofInt i_p0_kitchen_rules_seats), .int (Int32.ofInt i_p0_kitchen_rules_stirs), .ref a_p0_kitchen_rules_need, .ref a_p0_kitchen_rules_kind, .ref a_p0_kitchen_rules_first, .ref a_p0_kitchen_rules_second, .ref a_p0_kitchen_rules_after])), (a_p0_kitchen_rules_after, .inl (G 1, 35, .inl (zA v_p0_kitchen_rules_after))), (a_p0_kitchen_state, .inr (8, [.ref a_p0_kitchen_state_pieces, .ref a_p0_kitchen_state_friends, .ref a_p0_kitchen_state_spoons, .ref a_p0_kitchen_state_eaten, .ref a_p0_kitchen_state_seen, .int (Int32.ofInt i_p0_kitchen_state_seenDays), .int (Int32.ofInt i_p0_kitchen_state_bone), .int (Int32.ofInt i_p0_kitchen_state_king), .int (Int32.ofInt i_p0_kitchen_state_days)])), (a_p0_kitchen_state_friends, .inl (G 1, 7, .inl (zA v_p0_kitchen_state_friends))), (a_p0_kitchen_state_seen, .inl (G 1, 6, .inl (zA v_p0_kitchen_state_seen))), (a_p0_kitchen_places, .inl (G 1, 49, .inl (zA w2))), (a_p0_kitchen_holders, .inl (G 1, 49, .inl (zA w3))), (a_p0_fitting, .inl (G 1, 6, .inl (zA w4)))] H → va_D A [(a_p0, .inr (4, [.ref a_p0_kitchen, .ref a_p0_fitting])), (a_p0_kitchen, .inr (2, [.ref a_p0_kitchen_rules, .ref a_p0_kitchen_state, .ref a_p0_kitchen_places, .ref a_p0_kitchen_holders, .ref a_p0_kitchen_stirred])), (a_p0_kitchen_rules, .inr (6, [.int (Int32.ofInt i_p0_kitchen_rules_seats), .int (Int32.ofInt i_p0_kitchen_rules_stirs), .ref a_p0_kitchen_rules_need, .ref a_p0_kitchen_rules_kind, .ref a_p0_kitchen_rules_first, .ref a_p0_kitchen_rules_second, .ref a_p0_kitchen_rules_after])), (a_p0_kitchen_rules_after, .inl (G 1, 35, .inl (zA v_p0_kitchen_rules_after))), (a_p0_kitchen_state, .inr (8, [.ref a_p0_kitchen_state_pieces, .ref a_p0_kitchen_state_friends, .ref a_p0_kitchen_state_spoons, .ref a_p0_kitchen_state_eaten, .ref a_p0_kitchen_state_seen, .int (Int32.ofInt i_p0_kitchen_state_seenDays), .int (Int32.ofInt i_p0_kitchen_state_bone), .int (Int32.ofInt i_p0_kitchen_state_king), .int (Int32.ofInt i_p0_kitchen_state_days)])), (a_p0_kitchen_state_friends, .inl (G 1, 7, .inl (zA v_p0_kitchen_state_friends))), (a_p0_kitchen_state_seen, .inl (G 1, 6, .inl (zA v_p0_kitchen_state_seen))), (a_p0_kitchen_places, .inl (G 1, 49, .inl (zA w2))), (a_p0_kitchen_holders, .inl (G 1, 49, .inl (zA w3))), (a_p0_fitting, .inl (G 1, 6, .inl (zA w4)))] → va_S A s.heap H locs → lq1 B8 n z7 = some (r, o_v_p0_kitchen_places, o_v_p0_kitchen_holders, o_v_p0_fitting) → W p l e rm_X4_firstStirOfDay s m ([.ref a_p0, .int (Int32.ofInt x1)] : List Value).toArray below meth c H locs 0 0 Q (F0 m 8 ls []) := by
    clear hf hl hP hD hS
    intro n
    induction n with
    | zero =>
      intro z7 ls H locs hl hP hD hS hf
      exact (lq1_0 hf).elim
    | succ n ih8 =>
      intro z7 ls H locs hl hP hD hS hf
      replace hf := lq1_s eB8 hf
      unfold B_X4_firstStirOfDay_8 at hf
      refine lv_iload_n hx hb dX4_firstStirOfDay_8 rfl (lv_at hl 0 rfl) ?_
      refine lv_aload_n hx hb dX4_firstStirOfDay_9 rfl (lv_at hl 2 rfl) ?_
      refine va_get (D := D) (ci := 4) (v := .ref a_p0_kitchen) (C := RX4) (T := TX4) (N := 2) hx hb hts inX4_firstStirOfDay_X4 hown hK hP 0 rfl rfl 0 (by decide) (hts _ mwX4_firstStirOfDay_2) (fun _ h9 => h9) rfl dX4_firstStirOfDay_10 ?_
      refine va_get (D := D) (ci := 2) (v := .ref a_p0_kitchen_rules) (C := RX2) (T := TX2) (N := 5) hx hb hts inX4_firstStirOfDay_X2 hown hK hP 1 rfl rfl 0 (by decide) (hts _ mwX4_firstStirOfDay_4) (fun _ h9 => h9) rfl dX4_firstStirOfDay_13 ?_
      refine va_get (D := D) (ci := 6) (v := .int (Int32.ofInt i_p0_kitchen_rules_stirs)) (C := RX6) (T := TX6) (N := 7) hx hb hts inX4_firstStirOfDay_X6 hown hK hP 2 rfl rfl 1 (by decide) (hts _ mwX4_firstStirOfDay_6) (fun _ h9 => h9) rfl dX4_firstStirOfDay_16 ?_
      have hr8 := ck_c hf
      replace hf := ck_r hf
      have hr9 := ck_c hf
      replace hf := ck_r hf
      refine lv_icmp_ge (tgt := 38) hx hb dX4_firstStirOfDay_19 (by decide) (fun cc => ?_) (fun cc => ?_)
      ·
        replace hf := ite_t ((z_le hr9 hr8).mp cc) hf
        clear cc
        refine lv_bipush (v := Int32.ofInt (-4 : Int)) hx hb dX4_firstStirOfDay_38 (by decide) ?_
        obtain ⟨rfl, rfl, rfl, rfl⟩ := ou4 hf
        rw [hQ]
        exact W.iret hx hb hr (fun t ht hW => ⟨⟨_, (), rfl, rfl, by rw [ht]; exact hP, va_K.moved hW.alike hK, hD⟩, hS.F ht⟩) hS.2.2 dX4_firstStirOfDay_40
      ·
        replace hf := ite_f (fun h9 => cc ((z_le hr9 hr8).mpr h9)) hf
        clear cc
        refine lv_iload_n hx hb dX4_firstStirOfDay_22 rfl (lv_at hl 1 rfl) ?_
        refine lv_iload_n hx hb dX4_firstStirOfDay_23 rfl (lv_at hl 0 rfl) ?_
        refine lv_ishr hx hb dX4_firstStirOfDay_24 (z_ci (z_shr_e z5 z7) ?_)
        refine lv_iconst (v := Int32.ofInt (1 : Int)) hx hb dX4_firstStirOfDay_25 (by decide) ?_
        refine lv_iand hx hb dX4_firstStirOfDay_26 (z_ci (z_and_e (z_shr z5 z7) (1 : Int)) ?_)
        have hr10 := ck_c hf
        replace hf := ck_r hf
        refine lv_if_eq (tgt := 32) hx hb dX4_firstStirOfDay_27 (by decide) (fun cc => ?_) (fun cc => ?_)
        ·
          replace hf := ite_t ((z_eq0 hr10).mp cc) hf
          clear cc
          obtain ⟨z12, ez⟩ : ∃ y : Int, y = (z7 + (1 : Int)) := ⟨_, rfl⟩
          replace hf := bnd_s hf ez
          refine lv_iinc (v := Int32.ofInt z12) (lv' := [(3, .int (Int32.ofInt z12)), (2, .int (Int32.ofInt z5)), (0, .ref a_p0)]) hx hb dX4_firstStirOfDay_32 hl (k := 0) rfl (by rw [ez]; exact (Int32.ofInt_add _ _).symm) (by decide) rfl (fun ls hl => ?_)
          clear ez
          refine lv_goto (tgt := 8) hx hb dX4_firstStirOfDay_35 (by decide) ?_
          exact ih8 _ _ _ _ (lv_sub hl [0, 1, 2] rfl) hP hD hS hf
        ·
          replace hf := ite_f (fun h9 => cc ((z_eq0 hr10).mpr h9)) hf
          clear cc
          refine lv_iload_n hx hb dX4_firstStirOfDay_30 rfl (lv_at hl 0 rfl) ?_
          obtain ⟨rfl, rfl, rfl, rfl⟩ := ou4 hf
          rw [hQ]
          exact W.iret hx hb hr (fun t ht hW => ⟨⟨_, (), rfl, rfl, by rw [ht]; exact hP, va_K.moved hW.alike hK, hD⟩, hS.F ht⟩) hS.2.2 dX4_firstStirOfDay_31
  exact hB8 _ _ _ _ _ (lv_sub hl [0, 1, 2] rfl) hP hD hS hf

noncomputable def f_X5_bitOf (x0 : Int) (x1 : Int) : Option (Int) := (some (w_shl (1 : Int) ((x0 * (7 : Int)) + x1)))
abbrev rm_X5_bitOf : Room := { frames := 0, cells := 0, slots := 0, locals := 0 }
set_option maxHeartbeats 8000000 in
set_option maxRecDepth 100000 in
theorem c_X5_bitOf (l : Launch) (D : va_G) (G : Nat → ClassId) (sz : Nat) (x0 : Int) (x1 : Int) (r : Int) (hf : f_X5_bitOf x0 x1 = some r) : Met l yX5_bitOf wsX5_bitOf rm_X5_bitOf (pcG D G [.int (Int32.ofInt x0), .int (Int32.ofInt x1)] sz []) (qcL D G (Int64.ofInt r) [] (va_A [] sz)) 0 0 (va_A [] sz) := by
  refine Met.ofW (cc := cX5_bitOf) (maxL := 2) (ret := (some .long)) (by decide) rfl ?_
  intro p e s m args below meth c s₁ B hml hv
  obtain ⟨rfl, hsz, hP, hK, hD0⟩ := hv
  have hx := B.exec
  have hb := B.bytes
  have hr := B.returns
  have hts := atoms_spec (ws := wsX5_bitOf) B.pre
  have hown : s.vm.findClass RX5 = some m.cls := findClass_of_methodNamed B.named
  have hlocks := B.notSynchronized
  subst hsz
  have hD := hD0.self (sz := s.heap.size)
  generalize hAe : va_A [] s.heap.size = A at hD ⊢
  have hA : ∀ q : Nat, s.heap.size ≤ q → A q := fun q h => by rw [← hAe]; exact Or.inr h
  clear hAe hD0
  have hS : va_S A s.heap s.heap [] := va_S.rf
  have hl := lv_entry ([.int (Int32.ofInt x0), .int (Int32.ofInt x1)]) (n := 2) (Nat.le_of_ble_eq_true rfl)
  rw [lg_entry_eq]
  generalize (lg_sl ([.int (Int32.ofInt x0), .int (Int32.ofInt x1)]) ++ List.replicate (2 - (lg_sl ([.int (Int32.ofInt x0), .int (Int32.ofInt x1)])).length) Slot.unset).toArray = ls at hl ⊢
  have hl : lv_has ls 2 [(0, .int (Int32.ofInt x0)), (1, .int (Int32.ofInt x1))] := hl
  refine W_nameQ (fun Q hQ => ?_)
  obtain ⟨H, hH⟩ : ∃ H, H = s.heap := ⟨_, rfl⟩
  replace hS : va_S A s.heap H [] := by rw [hH]; exact hS
  replace hP : va_P D vwCl [] H := by rw [hH]; exact hP
  rw [← hH]
  clear hH
  unfold f_X5_bitOf at hf
  refine lv_lconst (v := Int64.ofInt (1 : Int)) hx hb dX5_bitOf_0 (by decide) ?_
  refine lv_iload_n hx hb dX5_bitOf_1 rfl (lv_at hl 0 rfl) ?_
  refine lv_bipush (v := Int32.ofInt (7 : Int)) hx hb dX5_bitOf_2 (by decide) ?_
  refine lv_imul hx hb dX5_bitOf_4 (z_ci (Int32.ofInt_mul x0 (7 : Int)) ?_)
  refine lv_iload_n hx hb dX5_bitOf_5 rfl (lv_at hl 1 rfl) ?_
  refine lv_iadd hx hb dX5_bitOf_6 (z_ci (Int32.ofInt_add (x0 * (7 : Int)) x1) ?_)
  refine lv_lshl (v := Int64.ofInt (w_shl (1 : Int) ((x0 * (7 : Int)) + x1))) hx hb dX5_bitOf_7 (w_shl_e (1 : Int) ((x0 * (7 : Int)) + x1)).symm ?_
  obtain rfl := ou1 hf
  rw [hQ]
  exact W.lret hx hb hr (fun t ht hW => ⟨⟨_, (), rfl, rfl, by rw [ht]; exact hP, va_K.moved hW.alike hK, hD⟩, hS.F ht⟩) hS.2.2 dX5_bitOf_8

noncomputable def B_X5_pairsOfKing_5 (i_p0_kitchen_rules_seats : Int) (x1 : Int) (again5 : Int → Int → Option (Int)) (z3 : Int) (z4 : Int) : Option (Int) := (ck (z_r32 z3) (ck (z_r32 i_p0_kitchen_rules_seats) (if i_p0_kitchen_rules_seats ≤ z3 then (some z4) else (bd1 (f_X5_bitOf x1 z3) (fun (z8 : Int) => (bnd (w_or z4 z8) (fun (z9 : Int) => (bnd (z3 + (1 : Int)) (fun (z10 : Int) => (again5 z10 z9))))))))))
noncomputable def f_X5_pairsOfKing (i_p0_kitchen_rules_seats : Int) (x1 : Int) : Option (Int) := (bnd (0 : Int) (fun (z1 : Int) => (bnd (0 : Int) (fun (z2 : Int) => (lq2 (B_X5_pairsOfKing_5 i_p0_kitchen_rules_seats x1) 1000 z2 z1)))))
abbrev rm_X5_pairsOfKing : Room := { frames := 1, cells := 0, slots := 0, locals := 21 }
theorem inX5_pairsOfKing_X5 : ∀ w ∈ wsX50, w ∈ wsX5_pairsOfKing := by first | exact fun w h => List.mem_cons_of_mem _ (List.mem_append_left _ (List.mem_append_left _ (List.mem_append_right _ h))) | decide +kernel
theorem mwX5_pairsOfKing_1 : Cond.fieldLink RX5 19 "LadleKings$Plans" "kitchen" "LLadleKings$Kitchen;" ∈ wsX5_pairsOfKing := by first | exact List.mem_of_getElem? (i := 1) rfl | decide +kernel
theorem inX5_pairsOfKing_X2 : ∀ w ∈ wsX20, w ∈ wsX5_pairsOfKing := by first | exact fun w h => List.mem_cons_of_mem _ (List.mem_append_left _ (List.mem_append_right _ h)) | decide +kernel
theorem mwX5_pairsOfKing_3 : Cond.fieldLink RX5 48 "LadleKings$Kitchen" "rules" "LLadleKings$Rules;" ∈ wsX5_pairsOfKing := by first | exact List.mem_of_getElem? (i := 2) rfl | decide +kernel
theorem inX5_pairsOfKing_X6 : ∀ w ∈ wsX60, w ∈ wsX5_pairsOfKing := by first | exact fun w h => List.mem_cons_of_mem _ (List.mem_append_right _ h) | decide +kernel
theorem mwX5_pairsOfKing_5 : Cond.fieldLink RX5 52 "LadleKings$Rules" "seats" "I" ∈ wsX5_pairsOfKing := by first | exact List.mem_of_getElem? (i := 3) rfl | decide +kernel
set_option maxHeartbeats 8000000 in
set_option maxRecDepth 100000 in
theorem c_X5_pairsOfKing (l : Launch) (D : va_G) (G : Nat → ClassId) (sz : Nat) (a_p0 : Nat) (a_p0_kitchen : Nat) (a_p0_good : Nat) (a_p0_row : Nat) (a_p0_kitchen_rules : Nat) (a_p0_kitchen_state : Nat) (a_p0_kitchen_places : Nat) (a_p0_kitchen_holders : Nat) (a_p0_kitchen_stirred : Nat) (a_p0_kitchen_rules_need : Nat) (a_p0_kitchen_rules_kind : Nat) (a_p0_kitchen_rules_first : Nat) (a_p0_kitchen_rules_second : Nat) (a_p0_kitchen_rules_after : Nat) (i_p0_kitchen_rules_seats : Int) (i_p0_kitchen_rules_stirs : Int) (x1 : Int) (r : Int) (hf : f_X5_pairsOfKing i_p0_kitchen_rules_seats x1 = some r) : Met l yX5_pairsOfKing wsX5_pairsOfKing rm_X5_pairsOfKing (pcG D G [.ref a_p0, .int (Int32.ofInt x1)] sz [(a_p0, .inr (5, [.ref a_p0_kitchen, .ref a_p0_good, .ref a_p0_row])), (a_p0_kitchen, .inr (2, [.ref a_p0_kitchen_rules, .ref a_p0_kitchen_state, .ref a_p0_kitchen_places, .ref a_p0_kitchen_holders, .ref a_p0_kitchen_stirred])), (a_p0_kitchen_rules, .inr (6, [.int (Int32.ofInt i_p0_kitchen_rules_seats), .int (Int32.ofInt i_p0_kitchen_rules_stirs), .ref a_p0_kitchen_rules_need, .ref a_p0_kitchen_rules_kind, .ref a_p0_kitchen_rules_first, .ref a_p0_kitchen_rules_second, .ref a_p0_kitchen_rules_after]))]) (qcL D G (Int64.ofInt r) [(a_p0, .inr (5, [.ref a_p0_kitchen, .ref a_p0_good, .ref a_p0_row])), (a_p0_kitchen, .inr (2, [.ref a_p0_kitchen_rules, .ref a_p0_kitchen_state, .ref a_p0_kitchen_places, .ref a_p0_kitchen_holders, .ref a_p0_kitchen_stirred])), (a_p0_kitchen_rules, .inr (6, [.int (Int32.ofInt i_p0_kitchen_rules_seats), .int (Int32.ofInt i_p0_kitchen_rules_stirs), .ref a_p0_kitchen_rules_need, .ref a_p0_kitchen_rules_kind, .ref a_p0_kitchen_rules_first, .ref a_p0_kitchen_rules_second, .ref a_p0_kitchen_rules_after]))] (va_A [(a_p0, .inr (5, [.ref a_p0_kitchen, .ref a_p0_good, .ref a_p0_row])), (a_p0_kitchen, .inr (2, [.ref a_p0_kitchen_rules, .ref a_p0_kitchen_state, .ref a_p0_kitchen_places, .ref a_p0_kitchen_holders, .ref a_p0_kitchen_stirred])), (a_p0_kitchen_rules, .inr (6, [.int (Int32.ofInt i_p0_kitchen_rules_seats), .int (Int32.ofInt i_p0_kitchen_rules_stirs), .ref a_p0_kitchen_rules_need, .ref a_p0_kitchen_rules_kind, .ref a_p0_kitchen_rules_first, .ref a_p0_kitchen_rules_second, .ref a_p0_kitchen_rules_after]))] sz)) 0 0 (va_A [(a_p0, .inr (5, [.ref a_p0_kitchen, .ref a_p0_good, .ref a_p0_row])), (a_p0_kitchen, .inr (2, [.ref a_p0_kitchen_rules, .ref a_p0_kitchen_state, .ref a_p0_kitchen_places, .ref a_p0_kitchen_holders, .ref a_p0_kitchen_stirred])), (a_p0_kitchen_rules, .inr (6, [.int (Int32.ofInt i_p0_kitchen_rules_seats), .int (Int32.ofInt i_p0_kitchen_rules_stirs), .ref a_p0_kitchen_rules_need, .ref a_p0_kitchen_rules_kind, .ref a_p0_kitchen_rules_first, .ref a_p0_kitchen_rules_second, .ref a_p0_kitchen_rules_after]))] sz) := by
  refine Met.ofW (cc := cX5_pairsOfKing) (maxL := 5) (ret := (some .long)) (by decide) rfl ?_
  intro p e s m args below meth c s₁ B hml hv
  obtain ⟨rfl, hsz, hP, hK, hD0⟩ := hv
  have hx := B.exec
  have hb := B.bytes
  have hr := B.returns
  have hts := atoms_spec (ws := wsX5_pairsOfKing) B.pre
  have hown : s.vm.findClass RX5 = some m.cls := findClass_of_methodNamed B.named
  have hlocks := B.notSynchronized
  subst hsz
  have hD := hD0.self (sz := s.heap.size)
  generalize hAe : va_A [(a_p0, .inr (5, [.ref a_p0_kitchen, .ref a_p0_good, .ref a_p0_row])), (a_p0_kitchen, .inr (2, [.ref a_p0_kitchen_rules, .ref a_p0_kitchen_state, .ref a_p0_kitchen_places, .ref a_p0_kitchen_holders, .ref a_p0_kitchen_stirred])), (a_p0_kitchen_rules, .inr (6, [.int (Int32.ofInt i_p0_kitchen_rules_seats), .int (Int32.ofInt i_p0_kitchen_rules_stirs), .ref a_p0_kitchen_rules_need, .ref a_p0_kitchen_rules_kind, .ref a_p0_kitchen_rules_first, .ref a_p0_kitchen_rules_second, .ref a_p0_kitchen_rules_after]))] s.heap.size = A at hD ⊢
  have hA : ∀ q : Nat, s.heap.size ≤ q → A q := fun q h => by rw [← hAe]; exact Or.inr h
  clear hAe hD0
  have hS : va_S A s.heap s.heap [] := va_S.rf
  have hl := lv_entry ([.ref a_p0, .int (Int32.ofInt x1)]) (n := 5) (Nat.le_of_ble_eq_true rfl)
  rw [lg_entry_eq]
  generalize (lg_sl ([.ref a_p0, .int (Int32.ofInt x1)]) ++ List.replicate (5 - (lg_sl ([.ref a_p0, .int (Int32.ofInt x1)])).length) Slot.unset).toArray = ls at hl ⊢
  have hl : lv_has ls 5 [(0, .ref a_p0), (1, .int (Int32.ofInt x1))] := hl
  refine W_nameQ (fun Q hQ => ?_)
  obtain ⟨H, hH⟩ : ∃ H, H = s.heap := ⟨_, rfl⟩
  replace hS : va_S A s.heap H [] := by rw [hH]; exact hS
  replace hP : va_P D vwCl [(a_p0, .inr (5, [.ref a_p0_kitchen, .ref a_p0_good, .ref a_p0_row])), (a_p0_kitchen, .inr (2, [.ref a_p0_kitchen_rules, .ref a_p0_kitchen_state, .ref a_p0_kitchen_places, .ref a_p0_kitchen_holders, .ref a_p0_kitchen_stirred])), (a_p0_kitchen_rules, .inr (6, [.int (Int32.ofInt i_p0_kitchen_rules_seats), .int (Int32.ofInt i_p0_kitchen_rules_stirs), .ref a_p0_kitchen_rules_need, .ref a_p0_kitchen_rules_kind, .ref a_p0_kitchen_rules_first, .ref a_p0_kitchen_rules_second, .ref a_p0_kitchen_rules_after]))] H := by rw [hH]; exact hP
  rw [← hH]
  clear hH
  unfold f_X5_pairsOfKing at hf
  refine lv_lconst (v := Int64.ofInt (0 : Int)) hx hb dX5_pairsOfKing_0 (by decide) ?_
  refine z_topl (fun z1 ez => ?_)
  replace hf := bnd_s hf ez
  clear ez
  refine lv_lstore_n (lv' := [(2, .long (Int64.ofInt z1)), (0, .ref a_p0), (1, .int (Int32.ofInt x1))]) hx hb dX5_pairsOfKing_1 rfl hl (by decide) rfl (fun ls hl => ?_)
  refine lv_iconst (v := Int32.ofInt (0 : Int)) hx hb dX5_pairsOfKing_2 (by decide) ?_
  refine z_topi (fun z2 ez => ?_)
  replace hf := bnd_s hf ez
  clear ez
  refine lv_istore (lv' := [(4, .int (Int32.ofInt z2)), (2, .long (Int64.ofInt z1)), (0, .ref a_p0), (1, .int (Int32.ofInt x1))]) hx hb dX5_pairsOfKing_3 hl (by decide) rfl (fun ls hl => ?_)
  have hq := lq2_i hf
  clear hf
  obtain ⟨B5, eB5, NB5, hf⟩ := hq
  have hB5 : ∀ (n : Nat) (z3 : Int) (z4 : Int) (ls : Array Slot) (H : Heap) (locs : List Loc), lv_has ls 5 [(4, .int (Int32.ofInt z3)), (2, .long (Int64.ofInt z4)), (0, .ref a_p0), (1, .int (Int32.ofInt x1))] → va_P D vwCl [(a_p0, .inr (5, [.ref a_p0_kitchen, .ref a_p0_good, .ref a_p0_row])), (a_p0_kitchen, .inr (2, [.ref a_p0_kitchen_rules, .ref a_p0_kitchen_state, .ref a_p0_kitchen_places, .ref a_p0_kitchen_holders, .ref a_p0_kitchen_stirred])), (a_p0_kitchen_rules, .inr (6, [.int (Int32.ofInt i_p0_kitchen_rules_seats), .int (Int32.ofInt i_p0_kitchen_rules_stirs), .ref a_p0_kitchen_rules_need, .ref a_p0_kitchen_rules_kind, .ref a_p0_kitchen_rules_first, .ref a_p0_kitchen_rules_second, .ref a_p0_kitchen_rules_after]))] H → va_D A [(a_p0, .inr (5, [.ref a_p0_kitchen, .ref a_p0_good, .ref a_p0_row])), (a_p0_kitchen, .inr (2, [.ref a_p0_kitchen_rules, .ref a_p0_kitchen_state, .ref a_p0_kitchen_places, .ref a_p0_kitchen_holders, .ref a_p0_kitchen_stirred])), (a_p0_kitchen_rules, .inr (6, [.int (Int32.ofInt i_p0_kitchen_rules_seats), .int (Int32.ofInt i_p0_kitchen_rules_stirs), .ref a_p0_kitchen_rules_need, .ref a_p0_kitchen_rules_kind, .ref a_p0_kitchen_rules_first, .ref a_p0_kitchen_rules_second, .ref a_p0_kitchen_rules_after]))] → va_S A s.heap H locs → lq2 B5 n z3 z4 = some r → W p l e rm_X5_pairsOfKing s m ([.ref a_p0, .int (Int32.ofInt x1)] : List Value).toArray below meth c H locs 0 0 Q (F0 m 5 ls []) := by
    clear hf hl hP hD hS
    intro n
    induction n with
    | zero =>
      intro z3 z4 ls H locs hl hP hD hS hf
      exact (lq2_0 hf).elim
    | succ n ih5 =>
      intro z3 z4 ls H locs hl hP hD hS hf
      replace hf := lq2_s eB5 hf
      unfold B_X5_pairsOfKing_5 at hf
      refine lv_iload hx hb dX5_pairsOfKing_5 (lv_at hl 0 rfl) ?_
      refine lv_aload_n hx hb dX5_pairsOfKing_7 rfl (lv_at hl 2 rfl) ?_
      refine va_get (D := D) (ci := 5) (v := .ref a_p0_kitchen) (C := RX5) (T := TX5) (N := 3) hx hb hts inX5_pairsOfKing_X5 hown hK hP 0 rfl rfl 0 (by decide) (hts _ mwX5_pairsOfKing_1) (fun _ h9 => h9) rfl dX5_pairsOfKing_8 ?_
      refine va_get (D := D) (ci := 2) (v := .ref a_p0_kitchen_rules) (C := RX2) (T := TX2) (N := 5) hx hb hts inX5_pairsOfKing_X2 hown hK hP 1 rfl rfl 0 (by decide) (hts _ mwX5_pairsOfKing_3) (fun _ h9 => h9) rfl dX5_pairsOfKing_11 ?_
      refine va_get (D := D) (ci := 6) (v := .int (Int32.ofInt i_p0_kitchen_rules_seats)) (C := RX6) (T := TX6) (N := 7) hx hb hts inX5_pairsOfKing_X6 hown hK hP 2 rfl rfl 0 (by decide) (hts _ mwX5_pairsOfKing_5) (fun _ h9 => h9) rfl dX5_pairsOfKing_14 ?_
      have hr5 := ck_c hf
      replace hf := ck_r hf
      have hr6 := ck_c hf
      replace hf := ck_r hf
      refine lv_icmp_ge (tgt := 35) hx hb dX5_pairsOfKing_17 (by decide) (fun cc => ?_) (fun cc => ?_)
      ·
        replace hf := ite_t ((z_le hr6 hr5).mp cc) hf
        clear cc
        refine lv_lload_n hx hb dX5_pairsOfKing_35 rfl (lv_at hl 1 rfl) ?_
        obtain rfl := ou1 hf
        rw [hQ]
        exact W.lret hx hb hr (fun t ht hW => ⟨⟨_, (), rfl, rfl, by rw [ht]; exact hP, va_K.moved hW.alike hK, hD⟩, hS.F ht⟩) hS.2.2 dX5_pairsOfKing_36
      ·
        replace hf := ite_f (fun h9 => cc ((z_le hr6 hr5).mpr h9)) hf
        clear cc
        refine lv_lload_n hx hb dX5_pairsOfKing_20 rfl (lv_at hl 1 rfl) ?_
        refine lv_iload_n hx hb dX5_pairsOfKing_21 rfl (lv_at hl 3 rfl) ?_
        refine lv_iload hx hb dX5_pairsOfKing_22 (lv_at hl 0 rfl) ?_
        have hq := bd1_s hf
        clear hf
        obtain ⟨z8, hcall, hf⟩ := hq
        refine gnL (va_runS (As := [.int (Int32.ofInt x1), .int (Int32.ofInt z3)]) (rest := [.long (Int64.ofInt z4)]) ⟨hx, hb, hml, hown, hts⟩ (c_X5_bitOf (l := l) (D := D) (G := G) (sz := H.size) (x0 := x1) (x1 := z3) (r := z8) (hf := hcall)) (va_cwS 2 hts gX5_pairsOfKing_X5_bitOf rfl rfl rfl (by decide +kernel) ⟨Nat.le_of_ble_eq_true rfl, Nat.le_of_ble_eq_true rfl⟩) (preG_S (hP.sub [] rfl) (hD.sub [] rfl rfl) hK) rfl rfl hl.1 rfl (lv_room (Nat.le_of_ble_eq_true rfl)) dX5_pairsOfKing_24 ⟨Nat.le_of_ble_eq_true rfl, Nat.le_of_ble_eq_true rfl⟩) hP hD hS hA [] rfl (fun H locs hP hD hS => ?_)
        clear hcall
        refine lv_lor hx hb dX5_pairsOfKing_27 (z_cl (w_or_e z4 z8) ?_)
        refine z_topl (fun z9 ez => ?_)
        replace hf := bnd_s hf ez
        clear ez
        refine lv_lstore_n (lv' := [(2, .long (Int64.ofInt z9)), (4, .int (Int32.ofInt z3)), (0, .ref a_p0), (1, .int (Int32.ofInt x1))]) hx hb dX5_pairsOfKing_28 rfl hl (by decide) rfl (fun ls hl => ?_)
        obtain ⟨z10, ez⟩ : ∃ y : Int, y = (z3 + (1 : Int)) := ⟨_, rfl⟩
        replace hf := bnd_s hf ez
        refine lv_iinc (v := Int32.ofInt z10) (lv' := [(4, .int (Int32.ofInt z10)), (2, .long (Int64.ofInt z9)), (0, .ref a_p0), (1, .int (Int32.ofInt x1))]) hx hb dX5_pairsOfKing_29 hl (k := 1) rfl (by rw [ez]; exact (Int32.ofInt_add _ _).symm) (by decide) rfl (fun ls hl => ?_)
        clear ez
        refine lv_goto (tgt := 5) hx hb dX5_pairsOfKing_32 (by decide) ?_
        exact ih5 _ _ _ _ _ (lv_sub hl [0, 1, 2, 3] rfl) hP hD hS hf
  exact hB5 _ _ _ _ _ _ (lv_sub hl [0, 1, 2, 3] rfl) hP hD hS hf

noncomputable def B_X5_allPairs_4 (i_p0_kitchen_rules_seats : Int) (again4 : Int → Int → Option (Int)) (z3 : Int) (z4 : Int) : Option (Int) := (ck (z_r32 z3) (ck (z_r32 i_p0_kitchen_rules_seats) (if i_p0_kitchen_rules_seats ≤ z3 then (some z4) else (bd1 (f_X5_pairsOfKing i_p0_kitchen_rules_seats z3) (fun (z8 : Int) => (bnd (w_or z4 z8) (fun (z9 : Int) => (bnd (z3 + (1 : Int)) (fun (z10 : Int) => (again4 z10 z9))))))))))
noncomputable def f_X5_allPairs (i_p0_kitchen_rules_seats : Int) : Option (Int) := (bnd (0 : Int) (fun (z1 : Int) => (bnd (0 : Int) (fun (z2 : Int) => (lq2 (B_X5_allPairs_4 i_p0_kitchen_rules_seats) 1000 z2 z1)))))
abbrev rm_X5_allPairs : Room := { frames := 2, cells := 0, slots := 0, locals := 45 }
theorem inX5_allPairs_X5 : ∀ w ∈ wsX50, w ∈ wsX5_allPairs := by first | exact fun w h => List.mem_cons_of_mem _ (List.mem_append_left _ (List.mem_append_left _ (List.mem_append_right _ h))) | decide +kernel
theorem mwX5_allPairs_1 : Cond.fieldLink RX5 19 "LadleKings$Plans" "kitchen" "LLadleKings$Kitchen;" ∈ wsX5_allPairs := by first | exact List.mem_of_getElem? (i := 1) rfl | decide +kernel
theorem inX5_allPairs_X2 : ∀ w ∈ wsX20, w ∈ wsX5_allPairs := by first | exact fun w h => List.mem_cons_of_mem _ (List.mem_append_left _ (List.mem_append_right _ h)) | decide +kernel
theorem mwX5_allPairs_3 : Cond.fieldLink RX5 48 "LadleKings$Kitchen" "rules" "LLadleKings$Rules;" ∈ wsX5_allPairs := by first | exact List.mem_of_getElem? (i := 2) rfl | decide +kernel
theorem inX5_allPairs_X6 : ∀ w ∈ wsX60, w ∈ wsX5_allPairs := by first | exact fun w h => List.mem_cons_of_mem _ (List.mem_append_right _ h) | decide +kernel
theorem mwX5_allPairs_5 : Cond.fieldLink RX5 52 "LadleKings$Rules" "seats" "I" ∈ wsX5_allPairs := by first | exact List.mem_of_getElem? (i := 3) rfl | decide +kernel
theorem hdV_yX5_pairsOfKing_RX5 : yX5_pairsOfKing.cls = RX5 ∧ yX5_pairsOfKing.cls ≠ "java/lang/invoke/MethodHandle" ∧ yX5_pairsOfKing.cls ≠ "java/lang/invoke/VarHandle" ∧ (parseMethodDescriptor yX5_pairsOfKing.desc).map (fun d => d.parameters.length) = some 1 := by decide +kernel
set_option maxHeartbeats 8000000 in
set_option maxRecDepth 100000 in
theorem c_X5_allPairs (l : Launch) (D : va_G) (G : Nat → ClassId) (sz : Nat) (a_p0 : Nat) (a_p0_kitchen : Nat) (a_p0_good : Nat) (a_p0_row : Nat) (a_p0_kitchen_rules : Nat) (a_p0_kitchen_state : Nat) (a_p0_kitchen_places : Nat) (a_p0_kitchen_holders : Nat) (a_p0_kitchen_stirred : Nat) (a_p0_kitchen_rules_need : Nat) (a_p0_kitchen_rules_kind : Nat) (a_p0_kitchen_rules_first : Nat) (a_p0_kitchen_rules_second : Nat) (a_p0_kitchen_rules_after : Nat) (i_p0_kitchen_rules_seats : Int) (i_p0_kitchen_rules_stirs : Int) (r : Int) (hf : f_X5_allPairs i_p0_kitchen_rules_seats = some r) : Met l yX5_allPairs wsX5_allPairs rm_X5_allPairs (pcG D G [.ref a_p0] sz [(a_p0, .inr (5, [.ref a_p0_kitchen, .ref a_p0_good, .ref a_p0_row])), (a_p0_kitchen, .inr (2, [.ref a_p0_kitchen_rules, .ref a_p0_kitchen_state, .ref a_p0_kitchen_places, .ref a_p0_kitchen_holders, .ref a_p0_kitchen_stirred])), (a_p0_kitchen_rules, .inr (6, [.int (Int32.ofInt i_p0_kitchen_rules_seats), .int (Int32.ofInt i_p0_kitchen_rules_stirs), .ref a_p0_kitchen_rules_need, .ref a_p0_kitchen_rules_kind, .ref a_p0_kitchen_rules_first, .ref a_p0_kitchen_rules_second, .ref a_p0_kitchen_rules_after]))]) (qcL D G (Int64.ofInt r) [(a_p0, .inr (5, [.ref a_p0_kitchen, .ref a_p0_good, .ref a_p0_row])), (a_p0_kitchen, .inr (2, [.ref a_p0_kitchen_rules, .ref a_p0_kitchen_state, .ref a_p0_kitchen_places, .ref a_p0_kitchen_holders, .ref a_p0_kitchen_stirred])), (a_p0_kitchen_rules, .inr (6, [.int (Int32.ofInt i_p0_kitchen_rules_seats), .int (Int32.ofInt i_p0_kitchen_rules_stirs), .ref a_p0_kitchen_rules_need, .ref a_p0_kitchen_rules_kind, .ref a_p0_kitchen_rules_first, .ref a_p0_kitchen_rules_second, .ref a_p0_kitchen_rules_after]))] (va_A [(a_p0, .inr (5, [.ref a_p0_kitchen, .ref a_p0_good, .ref a_p0_row])), (a_p0_kitchen, .inr (2, [.ref a_p0_kitchen_rules, .ref a_p0_kitchen_state, .ref a_p0_kitchen_places, .ref a_p0_kitchen_holders, .ref a_p0_kitchen_stirred])), (a_p0_kitchen_rules, .inr (6, [.int (Int32.ofInt i_p0_kitchen_rules_seats), .int (Int32.ofInt i_p0_kitchen_rules_stirs), .ref a_p0_kitchen_rules_need, .ref a_p0_kitchen_rules_kind, .ref a_p0_kitchen_rules_first, .ref a_p0_kitchen_rules_second, .ref a_p0_kitchen_rules_after]))] sz)) 0 0 (va_A [(a_p0, .inr (5, [.ref a_p0_kitchen, .ref a_p0_good, .ref a_p0_row])), (a_p0_kitchen, .inr (2, [.ref a_p0_kitchen_rules, .ref a_p0_kitchen_state, .ref a_p0_kitchen_places, .ref a_p0_kitchen_holders, .ref a_p0_kitchen_stirred])), (a_p0_kitchen_rules, .inr (6, [.int (Int32.ofInt i_p0_kitchen_rules_seats), .int (Int32.ofInt i_p0_kitchen_rules_stirs), .ref a_p0_kitchen_rules_need, .ref a_p0_kitchen_rules_kind, .ref a_p0_kitchen_rules_first, .ref a_p0_kitchen_rules_second, .ref a_p0_kitchen_rules_after]))] sz) := by
  refine Met.ofW (cc := cX5_allPairs) (maxL := 4) (ret := (some .long)) (by decide) rfl ?_
  intro p e s m args below meth c s₁ B hml hv
  obtain ⟨rfl, hsz, hP, hK, hD0⟩ := hv
  have hx := B.exec
  have hb := B.bytes
  have hr := B.returns
  have hts := atoms_spec (ws := wsX5_allPairs) B.pre
  have hown : s.vm.findClass RX5 = some m.cls := findClass_of_methodNamed B.named
  have hlocks := B.notSynchronized
  subst hsz
  have hD := hD0.self (sz := s.heap.size)
  generalize hAe : va_A [(a_p0, .inr (5, [.ref a_p0_kitchen, .ref a_p0_good, .ref a_p0_row])), (a_p0_kitchen, .inr (2, [.ref a_p0_kitchen_rules, .ref a_p0_kitchen_state, .ref a_p0_kitchen_places, .ref a_p0_kitchen_holders, .ref a_p0_kitchen_stirred])), (a_p0_kitchen_rules, .inr (6, [.int (Int32.ofInt i_p0_kitchen_rules_seats), .int (Int32.ofInt i_p0_kitchen_rules_stirs), .ref a_p0_kitchen_rules_need, .ref a_p0_kitchen_rules_kind, .ref a_p0_kitchen_rules_first, .ref a_p0_kitchen_rules_second, .ref a_p0_kitchen_rules_after]))] s.heap.size = A at hD ⊢
  have hA : ∀ q : Nat, s.heap.size ≤ q → A q := fun q h => by rw [← hAe]; exact Or.inr h
  clear hAe hD0
  have hS : va_S A s.heap s.heap [] := va_S.rf
  have hl := lv_entry ([.ref a_p0]) (n := 4) (Nat.le_of_ble_eq_true rfl)
  rw [lg_entry_eq]
  generalize (lg_sl ([.ref a_p0]) ++ List.replicate (4 - (lg_sl ([.ref a_p0])).length) Slot.unset).toArray = ls at hl ⊢
  have hl : lv_has ls 4 [(0, .ref a_p0)] := hl
  refine W_nameQ (fun Q hQ => ?_)
  obtain ⟨H, hH⟩ : ∃ H, H = s.heap := ⟨_, rfl⟩
  replace hS : va_S A s.heap H [] := by rw [hH]; exact hS
  replace hP : va_P D vwCl [(a_p0, .inr (5, [.ref a_p0_kitchen, .ref a_p0_good, .ref a_p0_row])), (a_p0_kitchen, .inr (2, [.ref a_p0_kitchen_rules, .ref a_p0_kitchen_state, .ref a_p0_kitchen_places, .ref a_p0_kitchen_holders, .ref a_p0_kitchen_stirred])), (a_p0_kitchen_rules, .inr (6, [.int (Int32.ofInt i_p0_kitchen_rules_seats), .int (Int32.ofInt i_p0_kitchen_rules_stirs), .ref a_p0_kitchen_rules_need, .ref a_p0_kitchen_rules_kind, .ref a_p0_kitchen_rules_first, .ref a_p0_kitchen_rules_second, .ref a_p0_kitchen_rules_after]))] H := by rw [hH]; exact hP
  rw [← hH]
  clear hH
  unfold f_X5_allPairs at hf
  refine lv_lconst (v := Int64.ofInt (0 : Int)) hx hb dX5_allPairs_0 (by decide) ?_
  refine z_topl (fun z1 ez => ?_)
  replace hf := bnd_s hf ez
  clear ez
  refine lv_lstore_n (lv' := [(1, .long (Int64.ofInt z1)), (0, .ref a_p0)]) hx hb dX5_allPairs_1 rfl hl (by decide) rfl (fun ls hl => ?_)
  refine lv_iconst (v := Int32.ofInt (0 : Int)) hx hb dX5_allPairs_2 (by decide) ?_
  refine z_topi (fun z2 ez => ?_)
  replace hf := bnd_s hf ez
  clear ez
  refine lv_istore_n (lv' := [(3, .int (Int32.ofInt z2)), (1, .long (Int64.ofInt z1)), (0, .ref a_p0)]) hx hb dX5_allPairs_3 rfl hl (by decide) rfl (fun ls hl => ?_)
  have hq := lq2_i hf
  clear hf
  obtain ⟨B5, eB5, NB5, hf⟩ := hq
  have hB5 : ∀ (n : Nat) (z3 : Int) (z4 : Int) (ls : Array Slot) (H : Heap) (locs : List Loc), lv_has ls 4 [(3, .int (Int32.ofInt z3)), (1, .long (Int64.ofInt z4)), (0, .ref a_p0)] → va_P D vwCl [(a_p0, .inr (5, [.ref a_p0_kitchen, .ref a_p0_good, .ref a_p0_row])), (a_p0_kitchen, .inr (2, [.ref a_p0_kitchen_rules, .ref a_p0_kitchen_state, .ref a_p0_kitchen_places, .ref a_p0_kitchen_holders, .ref a_p0_kitchen_stirred])), (a_p0_kitchen_rules, .inr (6, [.int (Int32.ofInt i_p0_kitchen_rules_seats), .int (Int32.ofInt i_p0_kitchen_rules_stirs), .ref a_p0_kitchen_rules_need, .ref a_p0_kitchen_rules_kind, .ref a_p0_kitchen_rules_first, .ref a_p0_kitchen_rules_second, .ref a_p0_kitchen_rules_after]))] H → va_D A [(a_p0, .inr (5, [.ref a_p0_kitchen, .ref a_p0_good, .ref a_p0_row])), (a_p0_kitchen, .inr (2, [.ref a_p0_kitchen_rules, .ref a_p0_kitchen_state, .ref a_p0_kitchen_places, .ref a_p0_kitchen_holders, .ref a_p0_kitchen_stirred])), (a_p0_kitchen_rules, .inr (6, [.int (Int32.ofInt i_p0_kitchen_rules_seats), .int (Int32.ofInt i_p0_kitchen_rules_stirs), .ref a_p0_kitchen_rules_need, .ref a_p0_kitchen_rules_kind, .ref a_p0_kitchen_rules_first, .ref a_p0_kitchen_rules_second, .ref a_p0_kitchen_rules_after]))] → va_S A s.heap H locs → lq2 B5 n z3 z4 = some r → W p l e rm_X5_allPairs s m ([.ref a_p0] : List Value).toArray below meth c H locs 0 0 Q (F0 m 4 ls []) := by
    clear hf hl hP hD hS
    intro n
    induction n with
    | zero =>
      intro z3 z4 ls H locs hl hP hD hS hf
      exact (lq2_0 hf).elim
    | succ n ih4 =>
      intro z3 z4 ls H locs hl hP hD hS hf
      replace hf := lq2_s eB5 hf
      unfold B_X5_allPairs_4 at hf
      refine lv_iload_n hx hb dX5_allPairs_4 rfl (lv_at hl 0 rfl) ?_
      refine lv_aload_n hx hb dX5_allPairs_5 rfl (lv_at hl 2 rfl) ?_
      refine va_get (D := D) (ci := 5) (v := .ref a_p0_kitchen) (C := RX5) (T := TX5) (N := 3) hx hb hts inX5_allPairs_X5 hown hK hP 0 rfl rfl 0 (by decide) (hts _ mwX5_allPairs_1) (fun _ h9 => h9) rfl dX5_allPairs_6 ?_
      refine va_get (D := D) (ci := 2) (v := .ref a_p0_kitchen_rules) (C := RX2) (T := TX2) (N := 5) hx hb hts inX5_allPairs_X2 hown hK hP 1 rfl rfl 0 (by decide) (hts _ mwX5_allPairs_3) (fun _ h9 => h9) rfl dX5_allPairs_9 ?_
      refine va_get (D := D) (ci := 6) (v := .int (Int32.ofInt i_p0_kitchen_rules_seats)) (C := RX6) (T := TX6) (N := 7) hx hb hts inX5_allPairs_X6 hown hK hP 2 rfl rfl 0 (by decide) (hts _ mwX5_allPairs_5) (fun _ h9 => h9) rfl dX5_allPairs_12 ?_
      have hr5 := ck_c hf
      replace hf := ck_r hf
      have hr6 := ck_c hf
      replace hf := ck_r hf
      refine lv_icmp_ge (tgt := 32) hx hb dX5_allPairs_15 (by decide) (fun cc => ?_) (fun cc => ?_)
      ·
        replace hf := ite_t ((z_le hr6 hr5).mp cc) hf
        clear cc
        refine lv_lload_n hx hb dX5_allPairs_32 rfl (lv_at hl 1 rfl) ?_
        obtain rfl := ou1 hf
        rw [hQ]
        exact W.lret hx hb hr (fun t ht hW => ⟨⟨_, (), rfl, rfl, by rw [ht]; exact hP, va_K.moved hW.alike hK, hD⟩, hS.F ht⟩) hS.2.2 dX5_allPairs_33
      ·
        replace hf := ite_f (fun h9 => cc ((z_le hr6 hr5).mpr h9)) hf
        clear cc
        refine lv_lload_n hx hb dX5_allPairs_18 rfl (lv_at hl 1 rfl) ?_
        refine lv_aload_n hx hb dX5_allPairs_19 rfl (lv_at hl 2 rfl) ?_
        refine lv_iload_n hx hb dX5_allPairs_20 rfl (lv_at hl 0 rfl) ?_
        have hq := bd1_s hf
        clear hf
        obtain ⟨z8, hcall, hf⟩ := hq
        refine gnL (va_runV (As := [.int (Int32.ofInt z3)]) (rest := [.long (Int64.ofInt z4)]) ⟨hx, hb, hml, hown, hts⟩ (c_X5_pairsOfKing (l := l) (D := D) (G := G) (sz := H.size) (a_p0 := a_p0) (a_p0_kitchen := a_p0_kitchen) (a_p0_good := a_p0_good) (a_p0_row := a_p0_row) (a_p0_kitchen_rules := a_p0_kitchen_rules) (a_p0_kitchen_state := a_p0_kitchen_state) (a_p0_kitchen_places := a_p0_kitchen_places) (a_p0_kitchen_holders := a_p0_kitchen_holders) (a_p0_kitchen_stirred := a_p0_kitchen_stirred) (a_p0_kitchen_rules_need := a_p0_kitchen_rules_need) (a_p0_kitchen_rules_kind := a_p0_kitchen_rules_kind) (a_p0_kitchen_rules_first := a_p0_kitchen_rules_first) (a_p0_kitchen_rules_second := a_p0_kitchen_rules_second) (a_p0_kitchen_rules_after := a_p0_kitchen_rules_after) (i_p0_kitchen_rules_seats := i_p0_kitchen_rules_seats) (i_p0_kitchen_rules_stirs := i_p0_kitchen_rules_stirs) (x1 := z3) (r := z8) (hf := hcall)) (cwV 1 hts gX5_allPairs_X5_pairsOfKing rfl rfl rfl hdV_yX5_pairsOfKing_RX5 ⟨Nat.le_of_ble_eq_true rfl, Nat.le_of_ble_eq_true rfl⟩) (preG_V (ci := 5) (q := (RX5, TX5, 3)) (hP.sub [0, 1, 2] rfl) (hD.sub [0, 1, 2] rfl rfl) hK rfl rfl) rfl rfl hl.1 rfl (lv_room (Nat.le_of_ble_eq_true rfl)) dX5_allPairs_21 ⟨Nat.le_of_ble_eq_true rfl, Nat.le_of_ble_eq_true rfl⟩) hP hD hS hA [0, 1, 2] rfl (fun H locs hP hD hS => ?_)
        clear hcall
        refine lv_lor hx hb dX5_allPairs_24 (z_cl (w_or_e z4 z8) ?_)
        refine z_topl (fun z9 ez => ?_)
        replace hf := bnd_s hf ez
        clear ez
        refine lv_lstore_n (lv' := [(1, .long (Int64.ofInt z9)), (3, .int (Int32.ofInt z3)), (0, .ref a_p0)]) hx hb dX5_allPairs_25 rfl hl (by decide) rfl (fun ls hl => ?_)
        obtain ⟨z10, ez⟩ : ∃ y : Int, y = (z3 + (1 : Int)) := ⟨_, rfl⟩
        replace hf := bnd_s hf ez
        refine lv_iinc (v := Int32.ofInt z10) (lv' := [(3, .int (Int32.ofInt z10)), (1, .long (Int64.ofInt z9)), (0, .ref a_p0)]) hx hb dX5_allPairs_26 hl (k := 1) rfl (by rw [ez]; exact (Int32.ofInt_add _ _).symm) (by decide) rfl (fun ls hl => ?_)
        clear ez
        refine lv_goto (tgt := 4) hx hb dX5_allPairs_29 (by decide) ?_
        exact ih4 _ _ _ _ _ (lv_sub hl [0, 1, 2] rfl) hP hD hS hf
  exact hB5 _ _ _ _ _ _ (lv_sub hl [0, 1, 2] rfl) hP hD hS hf

noncomputable def B_X5_firstStirInto_3 (i_p0_kitchen_rules_stirs : Int) (v_p0_kitchen_rules_after : (Int → Int)) (x4 : Int) (v_p0_kitchen_holders : (Int → Int)) (x3 : Int) (x1 : Int) (x5 : Int) (again3 : Int → Option (Int)) (z2 : Int) : Option (Int) := (ck (z_r32 z2) (ck (z_r32 i_p0_kitchen_rules_stirs) (if i_p0_kitchen_rules_stirs ≤ z2 then (some (-4 : Int)) else (bd1 (f_X6_placeAfter v_p0_kitchen_rules_after z2 x4) (fun (z6 : Int) => (bnd z6 (fun (z7 : Int) => (bd1 (f_X2_holderOf v_p0_kitchen_holders x3 z7) (fun (z8 : Int) => (bnd z8 (fun (z9 : Int) => (ck (z_r32 z9) (ck (z_r32 x3) (jn (bd1 (f_X5_bitOf z9 z7) (fun (z13 : Int) => (ck (z_r64 (w_and x1 z13)) (ck (z_r32 (z_cmp (w_and x1 z13) (0 : Int))) (if (z_cmp (w_and x1 z13) (0 : Int)) = (0 : Int) then (bnd (z2 + (1 : Int)) (fun (z16 : Int) => (again3 z16))) else (some z2)))))) (fun (J12 : Option (Int)) => (if z9 = x3 then (J12) else (ck (z_r32 x5) (if x5 = (0 : Int) then (J12) else (bnd (z2 + (1 : Int)) (fun (z18 : Int) => (again3 z18)))))))))))))))))))))
noncomputable def f_X5_firstStirInto (i_p0_kitchen_rules_stirs : Int) (v_p0_kitchen_rules_after : (Int → Int)) (v_p0_kitchen_holders : (Int → Int)) (x1 : Int) (x3 : Int) (x4 : Int) (x5 : Int) : Option (Int) := (bnd (0 : Int) (fun (z1 : Int) => (lq1 (B_X5_firstStirInto_3 i_p0_kitchen_rules_stirs v_p0_kitchen_rules_after x4 v_p0_kitchen_holders x3 x1 x5) 1000 z1)))
abbrev rm_X5_firstStirInto : Room := { frames := 1, cells := 0, slots := 0, locals := 22 }
theorem inX5_firstStirInto_X5 : ∀ w ∈ wsX50, w ∈ wsX5_firstStirInto := by first | exact fun w h => List.mem_cons_of_mem _ (List.mem_append_left _ (List.mem_append_left _ (List.mem_append_right _ h))) | decide +kernel
theorem mwX5_firstStirInto_1 : Cond.fieldLink RX5 19 "LadleKings$Plans" "kitchen" "LLadleKings$Kitchen;" ∈ wsX5_firstStirInto := by first | exact List.mem_of_getElem? (i := 1) rfl | decide +kernel
theorem inX5_firstStirInto_X2 : ∀ w ∈ wsX20, w ∈ wsX5_firstStirInto := by first | exact fun w h => List.mem_cons_of_mem _ (List.mem_append_left _ (List.mem_append_right _ h)) | decide +kernel
theorem mwX5_firstStirInto_3 : Cond.fieldLink RX5 48 "LadleKings$Kitchen" "rules" "LLadleKings$Rules;" ∈ wsX5_firstStirInto := by first | exact List.mem_of_getElem? (i := 2) rfl | decide +kernel
theorem inX5_firstStirInto_X6 : ∀ w ∈ wsX60, w ∈ wsX5_firstStirInto := by first | exact fun w h => List.mem_cons_of_mem _ (List.mem_append_right _ h) | decide +kernel
theorem mwX5_firstStirInto_5 : Cond.fieldLink RX5 78 "LadleKings$Rules" "stirs" "I" ∈ wsX5_firstStirInto := by first | exact List.mem_of_getElem? (i := 3) rfl | decide +kernel
set_option maxHeartbeats 8000000 in
set_option maxRecDepth 100000 in
theorem c_X5_firstStirInto (l : Launch) (D : va_G) (G : Nat → ClassId) (sz : Nat) (a_p0 : Nat) (a_p0_kitchen : Nat) (a_p0_good : Nat) (a_p0_row : Nat) (a_p0_kitchen_rules : Nat) (a_p0_kitchen_state : Nat) (a_p0_kitchen_places : Nat) (a_p0_kitchen_holders : Nat) (a_p0_kitchen_stirred : Nat) (a_p0_kitchen_rules_need : Nat) (a_p0_kitchen_rules_kind : Nat) (a_p0_kitchen_rules_first : Nat) (a_p0_kitchen_rules_second : Nat) (a_p0_kitchen_rules_after : Nat) (i_p0_kitchen_rules_seats : Int) (i_p0_kitchen_rules_stirs : Int) (v_p0_kitchen_rules_after : (Int → Int)) (v_p0_kitchen_holders : (Int → Int)) (x1 : Int) (x3 : Int) (x4 : Int) (x5 : Int) (r : Int) (hf : f_X5_firstStirInto i_p0_kitchen_rules_stirs v_p0_kitchen_rules_after v_p0_kitchen_holders x1 x3 x4 x5 = some r) : Met l yX5_firstStirInto wsX5_firstStirInto rm_X5_firstStirInto (pcG D G [.ref a_p0, .long (Int64.ofInt x1), .int (Int32.ofInt x3), .int (Int32.ofInt x4), .int (Int32.ofInt x5)] sz [(a_p0, .inr (5, [.ref a_p0_kitchen, .ref a_p0_good, .ref a_p0_row])), (a_p0_kitchen, .inr (2, [.ref a_p0_kitchen_rules, .ref a_p0_kitchen_state, .ref a_p0_kitchen_places, .ref a_p0_kitchen_holders, .ref a_p0_kitchen_stirred])), (a_p0_kitchen_rules, .inr (6, [.int (Int32.ofInt i_p0_kitchen_rules_seats), .int (Int32.ofInt i_p0_kitchen_rules_stirs), .ref a_p0_kitchen_rules_need, .ref a_p0_kitchen_rules_kind, .ref a_p0_kitchen_rules_first, .ref a_p0_kitchen_rules_second, .ref a_p0_kitchen_rules_after])), (a_p0_kitchen_rules_after, .inl (G 1, 35, .inl (zA v_p0_kitchen_rules_after))), (a_p0_kitchen_holders, .inl (G 1, 49, .inl (zA v_p0_kitchen_holders)))]) (qcI D G (Int32.ofInt r) [(a_p0, .inr (5, [.ref a_p0_kitchen, .ref a_p0_good, .ref a_p0_row])), (a_p0_kitchen, .inr (2, [.ref a_p0_kitchen_rules, .ref a_p0_kitchen_state, .ref a_p0_kitchen_places, .ref a_p0_kitchen_holders, .ref a_p0_kitchen_stirred])), (a_p0_kitchen_rules, .inr (6, [.int (Int32.ofInt i_p0_kitchen_rules_seats), .int (Int32.ofInt i_p0_kitchen_rules_stirs), .ref a_p0_kitchen_rules_need, .ref a_p0_kitchen_rules_kind, .ref a_p0_kitchen_rules_first, .ref a_p0_kitchen_rules_second, .ref a_p0_kitchen_rules_after])), (a_p0_kitchen_rules_after, .inl (G 1, 35, .inl (zA v_p0_kitchen_rules_after))), (a_p0_kitchen_holders, .inl (G 1, 49, .inl (zA v_p0_kitchen_holders)))] (va_A [(a_p0, .inr (5, [.ref a_p0_kitchen, .ref a_p0_good, .ref a_p0_row])), (a_p0_kitchen, .inr (2, [.ref a_p0_kitchen_rules, .ref a_p0_kitchen_state, .ref a_p0_kitchen_places, .ref a_p0_kitchen_holders, .ref a_p0_kitchen_stirred])), (a_p0_kitchen_rules, .inr (6, [.int (Int32.ofInt i_p0_kitchen_rules_seats), .int (Int32.ofInt i_p0_kitchen_rules_stirs), .ref a_p0_kitchen_rules_need, .ref a_p0_kitchen_rules_kind, .ref a_p0_kitchen_rules_first, .ref a_p0_kitchen_rules_second, .ref a_p0_kitchen_rules_after])), (a_p0_kitchen_rules_after, .inl (G 1, 35, .inl (zA v_p0_kitchen_rules_after))), (a_p0_kitchen_holders, .inl (G 1, 49, .inl (zA v_p0_kitchen_holders)))] sz)) 0 0 (va_A [(a_p0, .inr (5, [.ref a_p0_kitchen, .ref a_p0_good, .ref a_p0_row])), (a_p0_kitchen, .inr (2, [.ref a_p0_kitchen_rules, .ref a_p0_kitchen_state, .ref a_p0_kitchen_places, .ref a_p0_kitchen_holders, .ref a_p0_kitchen_stirred])), (a_p0_kitchen_rules, .inr (6, [.int (Int32.ofInt i_p0_kitchen_rules_seats), .int (Int32.ofInt i_p0_kitchen_rules_stirs), .ref a_p0_kitchen_rules_need, .ref a_p0_kitchen_rules_kind, .ref a_p0_kitchen_rules_first, .ref a_p0_kitchen_rules_second, .ref a_p0_kitchen_rules_after])), (a_p0_kitchen_rules_after, .inl (G 1, 35, .inl (zA v_p0_kitchen_rules_after))), (a_p0_kitchen_holders, .inl (G 1, 49, .inl (zA v_p0_kitchen_holders)))] sz) := by
  refine Met.ofW (cc := cX5_firstStirInto) (maxL := 9) (ret := (some .int)) (by decide) rfl ?_
  intro p e s m args below meth c s₁ B hml hv
  obtain ⟨rfl, hsz, hP, hK, hD0⟩ := hv
  have hx := B.exec
  have hb := B.bytes
  have hr := B.returns
  have hts := atoms_spec (ws := wsX5_firstStirInto) B.pre
  have hown : s.vm.findClass RX5 = some m.cls := findClass_of_methodNamed B.named
  have hlocks := B.notSynchronized
  subst hsz
  have hD := hD0.self (sz := s.heap.size)
  generalize hAe : va_A [(a_p0, .inr (5, [.ref a_p0_kitchen, .ref a_p0_good, .ref a_p0_row])), (a_p0_kitchen, .inr (2, [.ref a_p0_kitchen_rules, .ref a_p0_kitchen_state, .ref a_p0_kitchen_places, .ref a_p0_kitchen_holders, .ref a_p0_kitchen_stirred])), (a_p0_kitchen_rules, .inr (6, [.int (Int32.ofInt i_p0_kitchen_rules_seats), .int (Int32.ofInt i_p0_kitchen_rules_stirs), .ref a_p0_kitchen_rules_need, .ref a_p0_kitchen_rules_kind, .ref a_p0_kitchen_rules_first, .ref a_p0_kitchen_rules_second, .ref a_p0_kitchen_rules_after])), (a_p0_kitchen_rules_after, .inl (G 1, 35, .inl (zA v_p0_kitchen_rules_after))), (a_p0_kitchen_holders, .inl (G 1, 49, .inl (zA v_p0_kitchen_holders)))] s.heap.size = A at hD ⊢
  have hA : ∀ q : Nat, s.heap.size ≤ q → A q := fun q h => by rw [← hAe]; exact Or.inr h
  clear hAe hD0
  have hS : va_S A s.heap s.heap [] := va_S.rf
  have hl := lv_entry ([.ref a_p0, .long (Int64.ofInt x1), .int (Int32.ofInt x3), .int (Int32.ofInt x4), .int (Int32.ofInt x5)]) (n := 9) (Nat.le_of_ble_eq_true rfl)
  rw [lg_entry_eq]
  generalize (lg_sl ([.ref a_p0, .long (Int64.ofInt x1), .int (Int32.ofInt x3), .int (Int32.ofInt x4), .int (Int32.ofInt x5)]) ++ List.replicate (9 - (lg_sl ([.ref a_p0, .long (Int64.ofInt x1), .int (Int32.ofInt x3), .int (Int32.ofInt x4), .int (Int32.ofInt x5)])).length) Slot.unset).toArray = ls at hl ⊢
  have hl : lv_has ls 9 [(0, .ref a_p0), (1, .long (Int64.ofInt x1)), (3, .int (Int32.ofInt x3)), (4, .int (Int32.ofInt x4)), (5, .int (Int32.ofInt x5))] := hl
  refine W_nameQ (fun Q hQ => ?_)
  obtain ⟨H, hH⟩ : ∃ H, H = s.heap := ⟨_, rfl⟩
  replace hS : va_S A s.heap H [] := by rw [hH]; exact hS
  replace hP : va_P D vwCl [(a_p0, .inr (5, [.ref a_p0_kitchen, .ref a_p0_good, .ref a_p0_row])), (a_p0_kitchen, .inr (2, [.ref a_p0_kitchen_rules, .ref a_p0_kitchen_state, .ref a_p0_kitchen_places, .ref a_p0_kitchen_holders, .ref a_p0_kitchen_stirred])), (a_p0_kitchen_rules, .inr (6, [.int (Int32.ofInt i_p0_kitchen_rules_seats), .int (Int32.ofInt i_p0_kitchen_rules_stirs), .ref a_p0_kitchen_rules_need, .ref a_p0_kitchen_rules_kind, .ref a_p0_kitchen_rules_first, .ref a_p0_kitchen_rules_second, .ref a_p0_kitchen_rules_after])), (a_p0_kitchen_rules_after, .inl (G 1, 35, .inl (zA v_p0_kitchen_rules_after))), (a_p0_kitchen_holders, .inl (G 1, 49, .inl (zA v_p0_kitchen_holders)))] H := by rw [hH]; exact hP
  rw [← hH]
  clear hH
  unfold f_X5_firstStirInto at hf
  refine lv_iconst (v := Int32.ofInt (0 : Int)) hx hb dX5_firstStirInto_0 (by decide) ?_
  refine z_topi (fun z1 ez => ?_)
  replace hf := bnd_s hf ez
  clear ez
  refine lv_istore (lv' := [(6, .int (Int32.ofInt z1)), (0, .ref a_p0), (1, .long (Int64.ofInt x1)), (3, .int (Int32.ofInt x3)), (4, .int (Int32.ofInt x4)), (5, .int (Int32.ofInt x5))]) hx hb dX5_firstStirInto_1 hl (by decide) rfl (fun ls hl => ?_)
  have hq := lq1_i hf
  clear hf
  obtain ⟨B3, eB3, NB3, hf⟩ := hq
  have hB3 : ∀ (n : Nat) (z2 : Int) (ls : Array Slot) (H : Heap) (locs : List Loc), lv_has ls 9 [(6, .int (Int32.ofInt z2)), (0, .ref a_p0), (1, .long (Int64.ofInt x1)), (3, .int (Int32.ofInt x3)), (4, .int (Int32.ofInt x4)), (5, .int (Int32.ofInt x5))] → va_P D vwCl [(a_p0, .inr (5, [.ref a_p0_kitchen, .ref a_p0_good, .ref a_p0_row])), (a_p0_kitchen, .inr (2, [.ref a_p0_kitchen_rules, .ref a_p0_kitchen_state, .ref a_p0_kitchen_places, .ref a_p0_kitchen_holders, .ref a_p0_kitchen_stirred])), (a_p0_kitchen_rules, .inr (6, [.int (Int32.ofInt i_p0_kitchen_rules_seats), .int (Int32.ofInt i_p0_kitchen_rules_stirs), .ref a_p0_kitchen_rules_need, .ref a_p0_kitchen_rules_kind, .ref a_p0_kitchen_rules_first, .ref a_p0_kitchen_rules_second, .ref a_p0_kitchen_rules_after])), (a_p0_kitchen_rules_after, .inl (G 1, 35, .inl (zA v_p0_kitchen_rules_after))), (a_p0_kitchen_holders, .inl (G 1, 49, .inl (zA v_p0_kitchen_holders)))] H → va_D A [(a_p0, .inr (5, [.ref a_p0_kitchen, .ref a_p0_good, .ref a_p0_row])), (a_p0_kitchen, .inr (2, [.ref a_p0_kitchen_rules, .ref a_p0_kitchen_state, .ref a_p0_kitchen_places, .ref a_p0_kitchen_holders, .ref a_p0_kitchen_stirred])), (a_p0_kitchen_rules, .inr (6, [.int (Int32.ofInt i_p0_kitchen_rules_seats), .int (Int32.ofInt i_p0_kitchen_rules_stirs), .ref a_p0_kitchen_rules_need, .ref a_p0_kitchen_rules_kind, .ref a_p0_kitchen_rules_first, .ref a_p0_kitchen_rules_second, .ref a_p0_kitchen_rules_after])), (a_p0_kitchen_rules_after, .inl (G 1, 35, .inl (zA v_p0_kitchen_rules_after))), (a_p0_kitchen_holders, .inl (G 1, 49, .inl (zA v_p0_kitchen_holders)))] → va_S A s.heap H locs → lq1 B3 n z2 = some r → W p l e rm_X5_firstStirInto s m ([.ref a_p0, .long (Int64.ofInt x1), .int (Int32.ofInt x3), .int (Int32.ofInt x4), .int (Int32.ofInt x5)] : List Value).toArray below meth c H locs 0 0 Q (F0 m 3 ls []) := by
    clear hf hl hP hD hS
    intro n
    induction n with
    | zero =>
      intro z2 ls H locs hl hP hD hS hf
      exact (lq1_0 hf).elim
    | succ n ih3 =>
      intro z2 ls H locs hl hP hD hS hf
      replace hf := lq1_s eB3 hf
      unfold B_X5_firstStirInto_3 at hf
      refine lv_iload hx hb dX5_firstStirInto_3 (lv_at hl 0 rfl) ?_
      refine lv_aload_n hx hb dX5_firstStirInto_5 rfl (lv_at hl 1 rfl) ?_
      refine va_get (D := D) (ci := 5) (v := .ref a_p0_kitchen) (C := RX5) (T := TX5) (N := 3) hx hb hts inX5_firstStirInto_X5 hown hK hP 0 rfl rfl 0 (by decide) (hts _ mwX5_firstStirInto_1) (fun _ h9 => h9) rfl dX5_firstStirInto_6 ?_
      refine va_get (D := D) (ci := 2) (v := .ref a_p0_kitchen_rules) (C := RX2) (T := TX2) (N := 5) hx hb hts inX5_firstStirInto_X2 hown hK hP 1 rfl rfl 0 (by decide) (hts _ mwX5_firstStirInto_3) (fun _ h9 => h9) rfl dX5_firstStirInto_9 ?_
      refine va_get (D := D) (ci := 6) (v := .int (Int32.ofInt i_p0_kitchen_rules_stirs)) (C := RX6) (T := TX6) (N := 7) hx hb hts inX5_firstStirInto_X6 hown hK hP 2 rfl rfl 1 (by decide) (hts _ mwX5_firstStirInto_5) (fun _ h9 => h9) rfl dX5_firstStirInto_12 ?_
      have hr3 := ck_c hf
      replace hf := ck_r hf
      have hr4 := ck_c hf
      replace hf := ck_r hf
      refine lv_icmp_ge (tgt := 80) hx hb dX5_firstStirInto_15 (by decide) (fun cc => ?_) (fun cc => ?_)
      ·
        replace hf := ite_t ((z_le hr4 hr3).mp cc) hf
        clear cc
        refine lv_bipush (v := Int32.ofInt (-4 : Int)) hx hb dX5_firstStirInto_80 (by decide) ?_
        obtain rfl := ou1 hf
        rw [hQ]
        exact W.iret hx hb hr (fun t ht hW => ⟨⟨_, (), rfl, rfl, by rw [ht]; exact hP, va_K.moved hW.alike hK, hD⟩, hS.F ht⟩) hS.2.2 dX5_firstStirInto_82
      ·
        replace hf := ite_f (fun h9 => cc ((z_le hr4 hr3).mpr h9)) hf
        clear cc
        refine lv_aload_n hx hb dX5_firstStirInto_18 rfl (lv_at hl 1 rfl) ?_
        refine va_get (D := D) (ci := 5) (v := .ref a_p0_kitchen) (C := RX5) (T := TX5) (N := 3) hx hb hts inX5_firstStirInto_X5 hown hK hP 0 rfl rfl 0 (by decide) (hts _ mwX5_firstStirInto_1) (fun _ h9 => h9) rfl dX5_firstStirInto_19 ?_
        refine va_get (D := D) (ci := 2) (v := .ref a_p0_kitchen_rules) (C := RX2) (T := TX2) (N := 5) hx hb hts inX5_firstStirInto_X2 hown hK hP 1 rfl rfl 0 (by decide) (hts _ mwX5_firstStirInto_3) (fun _ h9 => h9) rfl dX5_firstStirInto_22 ?_
        refine lv_iload hx hb dX5_firstStirInto_25 (lv_at hl 0 rfl) ?_
        refine lv_iload hx hb dX5_firstStirInto_27 (lv_at hl 4 rfl) ?_
        have hq := bd1_s hf
        clear hf
        obtain ⟨z6, hcall, hf⟩ := hq
        refine gnI (va_runV (As := [.int (Int32.ofInt z2), .int (Int32.ofInt x4)]) (rest := []) ⟨hx, hb, hml, hown, hts⟩ (c_X6_placeAfter (l := l) (D := D) (G := G) (sz := H.size) (a_p0 := a_p0_kitchen_rules) (a_p0_need := a_p0_kitchen_rules_need) (a_p0_kind := a_p0_kitchen_rules_kind) (a_p0_first := a_p0_kitchen_rules_first) (a_p0_second := a_p0_kitchen_rules_second) (a_p0_after := a_p0_kitchen_rules_after) (i_p0_seats := i_p0_kitchen_rules_seats) (i_p0_stirs := i_p0_kitchen_rules_stirs) (v_p0_after := v_p0_kitchen_rules_after) (x1 := z2) (x2 := x4) (r := z6) (hf := hcall)) (cwV 2 hts gX5_firstStirInto_X6_placeAfter rfl rfl rfl hdV_yX6_placeAfter_RX6 ⟨Nat.le_of_ble_eq_true rfl, Nat.le_of_ble_eq_true rfl⟩) (preG_V (ci := 6) (q := (RX6, TX6, 7)) (hP.sub [2, 3] rfl) (hD.sub [2, 3] rfl rfl) hK rfl rfl) rfl rfl hl.1 rfl (lv_room (Nat.le_of_ble_eq_true rfl)) dX5_firstStirInto_29 ⟨Nat.le_of_ble_eq_true rfl, Nat.le_of_ble_eq_true rfl⟩) hP hD hS hA [2, 3] rfl (fun H locs hP hD hS => ?_)
        clear hcall
        refine z_topi (fun z7 ez => ?_)
        replace hf := bnd_s hf ez
        clear ez
        refine lv_istore (lv' := [(7, .int (Int32.ofInt z7)), (6, .int (Int32.ofInt z2)), (0, .ref a_p0), (1, .long (Int64.ofInt x1)), (3, .int (Int32.ofInt x3)), (4, .int (Int32.ofInt x4)), (5, .int (Int32.ofInt x5))]) hx hb dX5_firstStirInto_32 hl (by decide) rfl (fun ls hl => ?_)
        refine lv_aload_n hx hb dX5_firstStirInto_34 rfl (lv_at hl 2 rfl) ?_
        refine va_get (D := D) (ci := 5) (v := .ref a_p0_kitchen) (C := RX5) (T := TX5) (N := 3) hx hb hts inX5_firstStirInto_X5 hown hK hP 0 rfl rfl 0 (by decide) (hts _ mwX5_firstStirInto_1) (fun _ h9 => h9) rfl dX5_firstStirInto_35 ?_
        refine lv_iload_n hx hb dX5_firstStirInto_38 rfl (lv_at hl 4 rfl) ?_
        refine lv_iload hx hb dX5_firstStirInto_39 (lv_at hl 0 rfl) ?_
        have hq := bd1_s hf
        clear hf
        obtain ⟨z8, hcall, hf⟩ := hq
        refine gnI (va_runV (As := [.int (Int32.ofInt x3), .int (Int32.ofInt z7)]) (rest := []) ⟨hx, hb, hml, hown, hts⟩ (c_X2_holderOf (l := l) (D := D) (G := G) (sz := H.size) (a_p0 := a_p0_kitchen) (a_p0_rules := a_p0_kitchen_rules) (a_p0_state := a_p0_kitchen_state) (a_p0_places := a_p0_kitchen_places) (a_p0_holders := a_p0_kitchen_holders) (a_p0_stirred := a_p0_kitchen_stirred) (v_p0_holders := v_p0_kitchen_holders) (x1 := x3) (x2 := z7) (r := z8) (hf := hcall)) (cwV 2 hts gX5_firstStirInto_X2_holderOf rfl rfl rfl hdV_yX2_holderOf_RX2 ⟨Nat.le_of_ble_eq_true rfl, Nat.le_of_ble_eq_true rfl⟩) (preG_V (ci := 2) (q := (RX2, TX2, 5)) (hP.sub [1, 4] rfl) (hD.sub [1, 4] rfl rfl) hK rfl rfl) rfl rfl hl.1 rfl (lv_room (Nat.le_of_ble_eq_true rfl)) dX5_firstStirInto_41 ⟨Nat.le_of_ble_eq_true rfl, Nat.le_of_ble_eq_true rfl⟩) hP hD hS hA [1, 4] rfl (fun H locs hP hD hS => ?_)
        clear hcall
        refine z_topi (fun z9 ez => ?_)
        replace hf := bnd_s hf ez
        clear ez
        refine lv_istore (lv' := [(8, .int (Int32.ofInt z9)), (7, .int (Int32.ofInt z7)), (6, .int (Int32.ofInt z2)), (0, .ref a_p0), (1, .long (Int64.ofInt x1)), (3, .int (Int32.ofInt x3)), (4, .int (Int32.ofInt x4)), (5, .int (Int32.ofInt x5))]) hx hb dX5_firstStirInto_44 hl (by decide) rfl (fun ls hl => ?_)
        refine lv_iload hx hb dX5_firstStirInto_46 (lv_at hl 0 rfl) ?_
        refine lv_iload_n hx hb dX5_firstStirInto_48 rfl (lv_at hl 5 rfl) ?_
        have hr9 := ck_c hf
        replace hf := ck_r hf
        have hr10 := ck_c hf
        replace hf := ck_r hf
        have hq := jn_i hf
        clear hf
        obtain ⟨J12, eJ12, hf⟩ := hq
        have hJ12 : ∀  (ls : Array Slot) (H : Heap) (locs : List Loc), lv_has ls 9 [(8, .int (Int32.ofInt z9)), (7, .int (Int32.ofInt z7)), (6, .int (Int32.ofInt z2)), (0, .ref a_p0), (1, .long (Int64.ofInt x1)), (3, .int (Int32.ofInt x3)), (4, .int (Int32.ofInt x4)), (5, .int (Int32.ofInt x5))] → va_P D vwCl [(a_p0, .inr (5, [.ref a_p0_kitchen, .ref a_p0_good, .ref a_p0_row])), (a_p0_kitchen, .inr (2, [.ref a_p0_kitchen_rules, .ref a_p0_kitchen_state, .ref a_p0_kitchen_places, .ref a_p0_kitchen_holders, .ref a_p0_kitchen_stirred])), (a_p0_kitchen_rules, .inr (6, [.int (Int32.ofInt i_p0_kitchen_rules_seats), .int (Int32.ofInt i_p0_kitchen_rules_stirs), .ref a_p0_kitchen_rules_need, .ref a_p0_kitchen_rules_kind, .ref a_p0_kitchen_rules_first, .ref a_p0_kitchen_rules_second, .ref a_p0_kitchen_rules_after])), (a_p0_kitchen_rules_after, .inl (G 1, 35, .inl (zA v_p0_kitchen_rules_after))), (a_p0_kitchen_holders, .inl (G 1, 49, .inl (zA v_p0_kitchen_holders)))] H → va_D A [(a_p0, .inr (5, [.ref a_p0_kitchen, .ref a_p0_good, .ref a_p0_row])), (a_p0_kitchen, .inr (2, [.ref a_p0_kitchen_rules, .ref a_p0_kitchen_state, .ref a_p0_kitchen_places, .ref a_p0_kitchen_holders, .ref a_p0_kitchen_stirred])), (a_p0_kitchen_rules, .inr (6, [.int (Int32.ofInt i_p0_kitchen_rules_seats), .int (Int32.ofInt i_p0_kitchen_rules_stirs), .ref a_p0_kitchen_rules_need, .ref a_p0_kitchen_rules_kind, .ref a_p0_kitchen_rules_first, .ref a_p0_kitchen_rules_second, .ref a_p0_kitchen_rules_after])), (a_p0_kitchen_rules_after, .inl (G 1, 35, .inl (zA v_p0_kitchen_rules_after))), (a_p0_kitchen_holders, .inl (G 1, 49, .inl (zA v_p0_kitchen_holders)))] → va_S A s.heap H locs → J12  = some r → W p l e rm_X5_firstStirInto s m ([.ref a_p0, .long (Int64.ofInt x1), .int (Int32.ofInt x3), .int (Int32.ofInt x4), .int (Int32.ofInt x5)] : List Value).toArray below meth c H locs 0 0 Q (F0 m 57 ls []) := by
          clear hf hl hP hD hS
          intro  ls H locs hl hP hD hS hf
          replace hf := jn0_s eJ12 hf
          refine lv_lload_n hx hb dX5_firstStirInto_57 rfl (lv_at hl 4 rfl) ?_
          refine lv_iload hx hb dX5_firstStirInto_58 (lv_at hl 0 rfl) ?_
          refine lv_iload hx hb dX5_firstStirInto_60 (lv_at hl 1 rfl) ?_
          have hq := bd1_s hf
          clear hf
          obtain ⟨z13, hcall, hf⟩ := hq
          refine gnL (va_runS (As := [.int (Int32.ofInt z9), .int (Int32.ofInt z7)]) (rest := [.long (Int64.ofInt x1)]) ⟨hx, hb, hml, hown, hts⟩ (c_X5_bitOf (l := l) (D := D) (G := G) (sz := H.size) (x0 := z9) (x1 := z7) (r := z13) (hf := hcall)) (va_cwS 2 hts gX5_firstStirInto_X5_bitOf rfl rfl rfl (by decide +kernel) ⟨Nat.le_of_ble_eq_true rfl, Nat.le_of_ble_eq_true rfl⟩) (preG_S (hP.sub [] rfl) (hD.sub [] rfl rfl) hK) rfl rfl hl.1 rfl (lv_room (Nat.le_of_ble_eq_true rfl)) dX5_firstStirInto_62 ⟨Nat.le_of_ble_eq_true rfl, Nat.le_of_ble_eq_true rfl⟩) hP hD hS hA [] rfl (fun H locs hP hD hS => ?_)
          clear hcall
          refine lv_land hx hb dX5_firstStirInto_65 (z_cl (w_and_e x1 z13) ?_)
          refine lv_lconst (v := Int64.ofInt (0 : Int)) hx hb dX5_firstStirInto_66 (by decide) ?_
          have hr13 := ck_c hf
          replace hf := ck_r hf
          refine W.lcmp hx hb dX5_firstStirInto_67 (z_ci (z_cmp_e hr13 (by decide)) ?_)
          have hr14 := ck_c hf
          replace hf := ck_r hf
          refine lv_if_eq (tgt := 74) hx hb dX5_firstStirInto_68 (by decide) (fun cc => ?_) (fun cc => ?_)
          ·
            replace hf := ite_t ((z_eq0 hr14).mp cc) hf
            clear cc
            obtain ⟨z16, ez⟩ : ∃ y : Int, y = (z2 + (1 : Int)) := ⟨_, rfl⟩
            replace hf := bnd_s hf ez
            refine lv_iinc (v := Int32.ofInt z16) (lv' := [(6, .int (Int32.ofInt z16)), (8, .int (Int32.ofInt z9)), (7, .int (Int32.ofInt z7)), (0, .ref a_p0), (1, .long (Int64.ofInt x1)), (3, .int (Int32.ofInt x3)), (4, .int (Int32.ofInt x4)), (5, .int (Int32.ofInt x5))]) hx hb dX5_firstStirInto_74 hl (k := 2) rfl (by rw [ez]; exact (Int32.ofInt_add _ _).symm) (by decide) rfl (fun ls hl => ?_)
            clear ez
            refine lv_goto (tgt := 3) hx hb dX5_firstStirInto_77 (by decide) ?_
            exact ih3 _ _ _ _ (lv_sub hl [0, 3, 4, 5, 6, 7] rfl) hP hD hS hf
          ·
            replace hf := ite_f (fun h9 => cc ((z_eq0 hr14).mpr h9)) hf
            clear cc
            refine lv_iload hx hb dX5_firstStirInto_71 (lv_at hl 2 rfl) ?_
            obtain rfl := ou1 hf
            rw [hQ]
            exact W.iret hx hb hr (fun t ht hW => ⟨⟨_, (), rfl, rfl, by rw [ht]; exact hP, va_K.moved hW.alike hK, hD⟩, hS.F ht⟩) hS.2.2 dX5_firstStirInto_73
        refine lv_icmp_eq (tgt := 57) hx hb dX5_firstStirInto_49 (by decide) (fun cc => ?_) (fun cc => ?_)
        ·
          replace hf := ite_t ((z_eq hr9 hr10).mp cc) hf
          clear cc
          exact hJ12  _ _ _ (lv_sub hl [0, 1, 2, 3, 4, 5, 6, 7] rfl) hP hD hS hf
        ·
          replace hf := ite_f (fun h9 => cc ((z_eq hr9 hr10).mpr h9)) hf
          clear cc
          refine lv_iload hx hb dX5_firstStirInto_52 (lv_at hl 7 rfl) ?_
          have hr16 := ck_c hf
          replace hf := ck_r hf
          refine lv_if_ne (tgt := 74) hx hb dX5_firstStirInto_54 (by decide) (fun cc => ?_) (fun cc => ?_)
          ·
            replace hf := ite_f (fun h9 => cc ((z_eq0 hr16).mpr h9)) hf
            clear cc
            obtain ⟨z18, ez⟩ : ∃ y : Int, y = (z2 + (1 : Int)) := ⟨_, rfl⟩
            replace hf := bnd_s hf ez
            refine lv_iinc (v := Int32.ofInt z18) (lv' := [(6, .int (Int32.ofInt z18)), (8, .int (Int32.ofInt z9)), (7, .int (Int32.ofInt z7)), (0, .ref a_p0), (1, .long (Int64.ofInt x1)), (3, .int (Int32.ofInt x3)), (4, .int (Int32.ofInt x4)), (5, .int (Int32.ofInt x5))]) hx hb dX5_firstStirInto_74 hl (k := 2) rfl (by rw [ez]; exact (Int32.ofInt_add _ _).symm) (by decide) rfl (fun ls hl => ?_)
            clear ez
            refine lv_goto (tgt := 3) hx hb dX5_firstStirInto_77 (by decide) ?_
            exact ih3 _ _ _ _ (lv_sub hl [0, 3, 4, 5, 6, 7] rfl) hP hD hS hf
          ·
            replace hf := ite_t ((z_eq0 hr16).mp cc) hf
            clear cc
            exact hJ12  _ _ _ (lv_sub hl [0, 1, 2, 3, 4, 5, 6, 7] rfl) hP hD hS hf
  exact hB3 _ _ _ _ _ (lv_sub hl [0, 1, 2, 3, 4, 5] rfl) hP hD hS hf

noncomputable def B_X5_pairsBefore_24 (i_p0_kitchen_rules_seats : Int) (z3 : Int) (again6 : Int → Int → Option (Int)) (i_p0_kitchen_rules_stirs : Int) (v_p0_kitchen_rules_after : (Int → Int)) (v_p0_kitchen_holders : (Int → Int)) (x1 : Int) (x3 : Int) (again24 : Int → Int → Option (Int)) (z9 : Int) (z10 : Int) : Option (Int) := (ck (z_r32 z9) (if i_p0_kitchen_rules_seats ≤ z9 then (bnd (z3 + (1 : Int)) (fun (z13 : Int) => (again6 z13 z10))) else (bd1 (f_X5_firstStirInto i_p0_kitchen_rules_stirs v_p0_kitchen_rules_after v_p0_kitchen_holders x1 z3 z9 x3) (fun (z14 : Int) => (ck (z_r32 z14) (if z14 = (-4 : Int) then (bnd (z9 + (1 : Int)) (fun (z16 : Int) => (again24 z16 z10))) else (bd1 (f_X5_bitOf z3 z9) (fun (z17 : Int) => (bnd (w_or z10 z17) (fun (z18 : Int) => (bnd (z9 + (1 : Int)) (fun (z19 : Int) => (again24 z19 z18)))))))))))))
noncomputable def B_X5_pairsBefore_6 (i_p0_kitchen_rules_seats : Int) (i_p0_kitchen_rules_stirs : Int) (v_p0_kitchen_rules_after : (Int → Int)) (v_p0_kitchen_holders : (Int → Int)) (x1 : Int) (x3 : Int) (again6 : Int → Int → Option (Int)) (z3 : Int) (z4 : Int) : Option (Int) := (ck (z_r32 z3) (ck (z_r32 i_p0_kitchen_rules_seats) (if i_p0_kitchen_rules_seats ≤ z3 then (some z4) else (bnd (0 : Int) (fun (z8 : Int) => (lq2 (B_X5_pairsBefore_24 i_p0_kitchen_rules_seats z3 again6 i_p0_kitchen_rules_stirs v_p0_kitchen_rules_after v_p0_kitchen_holders x1 x3) 1000 z8 z4))))))
noncomputable def f_X5_pairsBefore (i_p0_kitchen_rules_seats : Int) (i_p0_kitchen_rules_stirs : Int) (v_p0_kitchen_rules_after : (Int → Int)) (v_p0_kitchen_holders : (Int → Int)) (x1 : Int) (x3 : Int) : Option (Int) := (bnd (0 : Int) (fun (z1 : Int) => (bnd (0 : Int) (fun (z2 : Int) => (lq2 (B_X5_pairsBefore_6 i_p0_kitchen_rules_seats i_p0_kitchen_rules_stirs v_p0_kitchen_rules_after v_p0_kitchen_holders x1 x3) 1000 z2 z1)))))
abbrev rm_X5_pairsBefore : Room := { frames := 2, cells := 0, slots := 0, locals := 50 }
theorem inX5_pairsBefore_X5 : ∀ w ∈ wsX50, w ∈ wsX5_pairsBefore := by first | exact fun w h => List.mem_cons_of_mem _ (List.mem_append_left _ (List.mem_append_left _ (List.mem_append_right _ h))) | decide +kernel
theorem mwX5_pairsBefore_1 : Cond.fieldLink RX5 19 "LadleKings$Plans" "kitchen" "LLadleKings$Kitchen;" ∈ wsX5_pairsBefore := by first | exact List.mem_of_getElem? (i := 1) rfl | decide +kernel
theorem inX5_pairsBefore_X2 : ∀ w ∈ wsX20, w ∈ wsX5_pairsBefore := by first | exact fun w h => List.mem_cons_of_mem _ (List.mem_append_left _ (List.mem_append_right _ h)) | decide +kernel
theorem mwX5_pairsBefore_3 : Cond.fieldLink RX5 48 "LadleKings$Kitchen" "rules" "LLadleKings$Rules;" ∈ wsX5_pairsBefore := by first | exact List.mem_of_getElem? (i := 2) rfl | decide +kernel
theorem inX5_pairsBefore_X6 : ∀ w ∈ wsX60, w ∈ wsX5_pairsBefore := by first | exact fun w h => List.mem_cons_of_mem _ (List.mem_append_right _ h) | decide +kernel
theorem mwX5_pairsBefore_5 : Cond.fieldLink RX5 52 "LadleKings$Rules" "seats" "I" ∈ wsX5_pairsBefore := by first | exact List.mem_of_getElem? (i := 3) rfl | decide +kernel
theorem hdV_yX5_firstStirInto_RX5 : yX5_firstStirInto.cls = RX5 ∧ yX5_firstStirInto.cls ≠ "java/lang/invoke/MethodHandle" ∧ yX5_firstStirInto.cls ≠ "java/lang/invoke/VarHandle" ∧ (parseMethodDescriptor yX5_firstStirInto.desc).map (fun d => d.parameters.length) = some 4 := by decide +kernel
set_option maxHeartbeats 8000000 in
set_option maxRecDepth 100000 in
theorem c_X5_pairsBefore (l : Launch) (D : va_G) (G : Nat → ClassId) (sz : Nat) (a_p0 : Nat) (a_p0_kitchen : Nat) (a_p0_good : Nat) (a_p0_row : Nat) (a_p0_kitchen_rules : Nat) (a_p0_kitchen_state : Nat) (a_p0_kitchen_places : Nat) (a_p0_kitchen_holders : Nat) (a_p0_kitchen_stirred : Nat) (a_p0_kitchen_rules_need : Nat) (a_p0_kitchen_rules_kind : Nat) (a_p0_kitchen_rules_first : Nat) (a_p0_kitchen_rules_second : Nat) (a_p0_kitchen_rules_after : Nat) (i_p0_kitchen_rules_seats : Int) (i_p0_kitchen_rules_stirs : Int) (v_p0_kitchen_rules_after : (Int → Int)) (v_p0_kitchen_holders : (Int → Int)) (x1 : Int) (x3 : Int) (r : Int) (hf : f_X5_pairsBefore i_p0_kitchen_rules_seats i_p0_kitchen_rules_stirs v_p0_kitchen_rules_after v_p0_kitchen_holders x1 x3 = some r) : Met l yX5_pairsBefore wsX5_pairsBefore rm_X5_pairsBefore (pcG D G [.ref a_p0, .long (Int64.ofInt x1), .int (Int32.ofInt x3)] sz [(a_p0, .inr (5, [.ref a_p0_kitchen, .ref a_p0_good, .ref a_p0_row])), (a_p0_kitchen, .inr (2, [.ref a_p0_kitchen_rules, .ref a_p0_kitchen_state, .ref a_p0_kitchen_places, .ref a_p0_kitchen_holders, .ref a_p0_kitchen_stirred])), (a_p0_kitchen_rules, .inr (6, [.int (Int32.ofInt i_p0_kitchen_rules_seats), .int (Int32.ofInt i_p0_kitchen_rules_stirs), .ref a_p0_kitchen_rules_need, .ref a_p0_kitchen_rules_kind, .ref a_p0_kitchen_rules_first, .ref a_p0_kitchen_rules_second, .ref a_p0_kitchen_rules_after])), (a_p0_kitchen_rules_after, .inl (G 1, 35, .inl (zA v_p0_kitchen_rules_after))), (a_p0_kitchen_holders, .inl (G 1, 49, .inl (zA v_p0_kitchen_holders)))]) (qcL D G (Int64.ofInt r) [(a_p0, .inr (5, [.ref a_p0_kitchen, .ref a_p0_good, .ref a_p0_row])), (a_p0_kitchen, .inr (2, [.ref a_p0_kitchen_rules, .ref a_p0_kitchen_state, .ref a_p0_kitchen_places, .ref a_p0_kitchen_holders, .ref a_p0_kitchen_stirred])), (a_p0_kitchen_rules, .inr (6, [.int (Int32.ofInt i_p0_kitchen_rules_seats), .int (Int32.ofInt i_p0_kitchen_rules_stirs), .ref a_p0_kitchen_rules_need, .ref a_p0_kitchen_rules_kind, .ref a_p0_kitchen_rules_first, .ref a_p0_kitchen_rules_second, .ref a_p0_kitchen_rules_after])), (a_p0_kitchen_rules_after, .inl (G 1, 35, .inl (zA v_p0_kitchen_rules_after))), (a_p0_kitchen_holders, .inl (G 1, 49, .inl (zA v_p0_kitchen_holders)))] (va_A [(a_p0, .inr (5, [.ref a_p0_kitchen, .ref a_p0_good, .ref a_p0_row])), (a_p0_kitchen, .inr (2, [.ref a_p0_kitchen_rules, .ref a_p0_kitchen_state, .ref a_p0_kitchen_places, .ref a_p0_kitchen_holders, .ref a_p0_kitchen_stirred])), (a_p0_kitchen_rules, .inr (6, [.int (Int32.ofInt i_p0_kitchen_rules_seats), .int (Int32.ofInt i_p0_kitchen_rules_stirs), .ref a_p0_kitchen_rules_need, .ref a_p0_kitchen_rules_kind, .ref a_p0_kitchen_rules_first, .ref a_p0_kitchen_rules_second, .ref a_p0_kitchen_rules_after])), (a_p0_kitchen_rules_after, .inl (G 1, 35, .inl (zA v_p0_kitchen_rules_after))), (a_p0_kitchen_holders, .inl (G 1, 49, .inl (zA v_p0_kitchen_holders)))] sz)) 0 0 (va_A [(a_p0, .inr (5, [.ref a_p0_kitchen, .ref a_p0_good, .ref a_p0_row])), (a_p0_kitchen, .inr (2, [.ref a_p0_kitchen_rules, .ref a_p0_kitchen_state, .ref a_p0_kitchen_places, .ref a_p0_kitchen_holders, .ref a_p0_kitchen_stirred])), (a_p0_kitchen_rules, .inr (6, [.int (Int32.ofInt i_p0_kitchen_rules_seats), .int (Int32.ofInt i_p0_kitchen_rules_stirs), .ref a_p0_kitchen_rules_need, .ref a_p0_kitchen_rules_kind, .ref a_p0_kitchen_rules_first, .ref a_p0_kitchen_rules_second, .ref a_p0_kitchen_rules_after])), (a_p0_kitchen_rules_after, .inl (G 1, 35, .inl (zA v_p0_kitchen_rules_after))), (a_p0_kitchen_holders, .inl (G 1, 49, .inl (zA v_p0_kitchen_holders)))] sz) := by
  refine Met.ofW (cc := cX5_pairsBefore) (maxL := 8) (ret := (some .long)) (by decide) rfl ?_
  intro p e s m args below meth c s₁ B hml hv
  obtain ⟨rfl, hsz, hP, hK, hD0⟩ := hv
  have hx := B.exec
  have hb := B.bytes
  have hr := B.returns
  have hts := atoms_spec (ws := wsX5_pairsBefore) B.pre
  have hown : s.vm.findClass RX5 = some m.cls := findClass_of_methodNamed B.named
  have hlocks := B.notSynchronized
  subst hsz
  have hD := hD0.self (sz := s.heap.size)
  generalize hAe : va_A [(a_p0, .inr (5, [.ref a_p0_kitchen, .ref a_p0_good, .ref a_p0_row])), (a_p0_kitchen, .inr (2, [.ref a_p0_kitchen_rules, .ref a_p0_kitchen_state, .ref a_p0_kitchen_places, .ref a_p0_kitchen_holders, .ref a_p0_kitchen_stirred])), (a_p0_kitchen_rules, .inr (6, [.int (Int32.ofInt i_p0_kitchen_rules_seats), .int (Int32.ofInt i_p0_kitchen_rules_stirs), .ref a_p0_kitchen_rules_need, .ref a_p0_kitchen_rules_kind, .ref a_p0_kitchen_rules_first, .ref a_p0_kitchen_rules_second, .ref a_p0_kitchen_rules_after])), (a_p0_kitchen_rules_after, .inl (G 1, 35, .inl (zA v_p0_kitchen_rules_after))), (a_p0_kitchen_holders, .inl (G 1, 49, .inl (zA v_p0_kitchen_holders)))] s.heap.size = A at hD ⊢
  have hA : ∀ q : Nat, s.heap.size ≤ q → A q := fun q h => by rw [← hAe]; exact Or.inr h
  clear hAe hD0
  have hS : va_S A s.heap s.heap [] := va_S.rf
  have hl := lv_entry ([.ref a_p0, .long (Int64.ofInt x1), .int (Int32.ofInt x3)]) (n := 8) (Nat.le_of_ble_eq_true rfl)
  rw [lg_entry_eq]
  generalize (lg_sl ([.ref a_p0, .long (Int64.ofInt x1), .int (Int32.ofInt x3)]) ++ List.replicate (8 - (lg_sl ([.ref a_p0, .long (Int64.ofInt x1), .int (Int32.ofInt x3)])).length) Slot.unset).toArray = ls at hl ⊢
  have hl : lv_has ls 8 [(0, .ref a_p0), (1, .long (Int64.ofInt x1)), (3, .int (Int32.ofInt x3))] := hl
  refine W_nameQ (fun Q hQ => ?_)
  obtain ⟨H, hH⟩ : ∃ H, H = s.heap := ⟨_, rfl⟩
  replace hS : va_S A s.heap H [] := by rw [hH]; exact hS
  replace hP : va_P D vwCl [(a_p0, .inr (5, [.ref a_p0_kitchen, .ref a_p0_good, .ref a_p0_row])), (a_p0_kitchen, .inr (2, [.ref a_p0_kitchen_rules, .ref a_p0_kitchen_state, .ref a_p0_kitchen_places, .ref a_p0_kitchen_holders, .ref a_p0_kitchen_stirred])), (a_p0_kitchen_rules, .inr (6, [.int (Int32.ofInt i_p0_kitchen_rules_seats), .int (Int32.ofInt i_p0_kitchen_rules_stirs), .ref a_p0_kitchen_rules_need, .ref a_p0_kitchen_rules_kind, .ref a_p0_kitchen_rules_first, .ref a_p0_kitchen_rules_second, .ref a_p0_kitchen_rules_after])), (a_p0_kitchen_rules_after, .inl (G 1, 35, .inl (zA v_p0_kitchen_rules_after))), (a_p0_kitchen_holders, .inl (G 1, 49, .inl (zA v_p0_kitchen_holders)))] H := by rw [hH]; exact hP
  rw [← hH]
  clear hH
  unfold f_X5_pairsBefore at hf
  refine lv_lconst (v := Int64.ofInt (0 : Int)) hx hb dX5_pairsBefore_0 (by decide) ?_
  refine z_topl (fun z1 ez => ?_)
  replace hf := bnd_s hf ez
  clear ez
  refine lv_lstore (lv' := [(4, .long (Int64.ofInt z1)), (0, .ref a_p0), (1, .long (Int64.ofInt x1)), (3, .int (Int32.ofInt x3))]) hx hb dX5_pairsBefore_1 hl (by decide) rfl (fun ls hl => ?_)
  refine lv_iconst (v := Int32.ofInt (0 : Int)) hx hb dX5_pairsBefore_3 (by decide) ?_
  refine z_topi (fun z2 ez => ?_)
  replace hf := bnd_s hf ez
  clear ez
  refine lv_istore (lv' := [(6, .int (Int32.ofInt z2)), (4, .long (Int64.ofInt z1)), (0, .ref a_p0), (1, .long (Int64.ofInt x1)), (3, .int (Int32.ofInt x3))]) hx hb dX5_pairsBefore_4 hl (by decide) rfl (fun ls hl => ?_)
  have hq := lq2_i hf
  clear hf
  obtain ⟨B5, eB5, NB5, hf⟩ := hq
  have hB5 : ∀ (n : Nat) (z3 : Int) (z4 : Int) (ls : Array Slot) (H : Heap) (locs : List Loc), lv_has ls 8 [(6, .int (Int32.ofInt z3)), (4, .long (Int64.ofInt z4)), (0, .ref a_p0), (1, .long (Int64.ofInt x1)), (3, .int (Int32.ofInt x3))] → va_P D vwCl [(a_p0, .inr (5, [.ref a_p0_kitchen, .ref a_p0_good, .ref a_p0_row])), (a_p0_kitchen, .inr (2, [.ref a_p0_kitchen_rules, .ref a_p0_kitchen_state, .ref a_p0_kitchen_places, .ref a_p0_kitchen_holders, .ref a_p0_kitchen_stirred])), (a_p0_kitchen_rules, .inr (6, [.int (Int32.ofInt i_p0_kitchen_rules_seats), .int (Int32.ofInt i_p0_kitchen_rules_stirs), .ref a_p0_kitchen_rules_need, .ref a_p0_kitchen_rules_kind, .ref a_p0_kitchen_rules_first, .ref a_p0_kitchen_rules_second, .ref a_p0_kitchen_rules_after])), (a_p0_kitchen_rules_after, .inl (G 1, 35, .inl (zA v_p0_kitchen_rules_after))), (a_p0_kitchen_holders, .inl (G 1, 49, .inl (zA v_p0_kitchen_holders)))] H → va_D A [(a_p0, .inr (5, [.ref a_p0_kitchen, .ref a_p0_good, .ref a_p0_row])), (a_p0_kitchen, .inr (2, [.ref a_p0_kitchen_rules, .ref a_p0_kitchen_state, .ref a_p0_kitchen_places, .ref a_p0_kitchen_holders, .ref a_p0_kitchen_stirred])), (a_p0_kitchen_rules, .inr (6, [.int (Int32.ofInt i_p0_kitchen_rules_seats), .int (Int32.ofInt i_p0_kitchen_rules_stirs), .ref a_p0_kitchen_rules_need, .ref a_p0_kitchen_rules_kind, .ref a_p0_kitchen_rules_first, .ref a_p0_kitchen_rules_second, .ref a_p0_kitchen_rules_after])), (a_p0_kitchen_rules_after, .inl (G 1, 35, .inl (zA v_p0_kitchen_rules_after))), (a_p0_kitchen_holders, .inl (G 1, 49, .inl (zA v_p0_kitchen_holders)))] → va_S A s.heap H locs → lq2 B5 n z3 z4 = some r → W p l e rm_X5_pairsBefore s m ([.ref a_p0, .long (Int64.ofInt x1), .int (Int32.ofInt x3)] : List Value).toArray below meth c H locs 0 0 Q (F0 m 6 ls []) := by
    clear hf hl hP hD hS
    intro n
    induction n with
    | zero =>
      intro z3 z4 ls H locs hl hP hD hS hf
      exact (lq2_0 hf).elim
    | succ n ih6 =>
      intro z3 z4 ls H locs hl hP hD hS hf
      replace hf := lq2_s eB5 hf
      unfold B_X5_pairsBefore_6 at hf
      refine lv_iload hx hb dX5_pairsBefore_6 (lv_at hl 0 rfl) ?_
      refine lv_aload_n hx hb dX5_pairsBefore_8 rfl (lv_at hl 2 rfl) ?_
      refine va_get (D := D) (ci := 5) (v := .ref a_p0_kitchen) (C := RX5) (T := TX5) (N := 3) hx hb hts inX5_pairsBefore_X5 hown hK hP 0 rfl rfl 0 (by decide) (hts _ mwX5_pairsBefore_1) (fun _ h9 => h9) rfl dX5_pairsBefore_9 ?_
      refine va_get (D := D) (ci := 2) (v := .ref a_p0_kitchen_rules) (C := RX2) (T := TX2) (N := 5) hx hb hts inX5_pairsBefore_X2 hown hK hP 1 rfl rfl 0 (by decide) (hts _ mwX5_pairsBefore_3) (fun _ h9 => h9) rfl dX5_pairsBefore_12 ?_
      refine va_get (D := D) (ci := 6) (v := .int (Int32.ofInt i_p0_kitchen_rules_seats)) (C := RX6) (T := TX6) (N := 7) hx hb hts inX5_pairsBefore_X6 hown hK hP 2 rfl rfl 0 (by decide) (hts _ mwX5_pairsBefore_5) (fun _ h9 => h9) rfl dX5_pairsBefore_15 ?_
      have hr5 := ck_c hf
      replace hf := ck_r hf
      have hr6 := ck_c hf
      replace hf := ck_r hf
      refine lv_icmp_ge (tgt := 78) hx hb dX5_pairsBefore_18 (by decide) (fun cc => ?_) (fun cc => ?_)
      ·
        replace hf := ite_t ((z_le hr6 hr5).mp cc) hf
        clear cc
        refine lv_lload hx hb dX5_pairsBefore_78 (lv_at hl 1 rfl) ?_
        obtain rfl := ou1 hf
        rw [hQ]
        exact W.lret hx hb hr (fun t ht hW => ⟨⟨_, (), rfl, rfl, by rw [ht]; exact hP, va_K.moved hW.alike hK, hD⟩, hS.F ht⟩) hS.2.2 dX5_pairsBefore_80
      ·
        replace hf := ite_f (fun h9 => cc ((z_le hr6 hr5).mpr h9)) hf
        clear cc
        refine lv_iconst (v := Int32.ofInt (0 : Int)) hx hb dX5_pairsBefore_21 (by decide) ?_
        refine z_topi (fun z8 ez => ?_)
        replace hf := bnd_s hf ez
        clear ez
        refine lv_istore (lv' := [(7, .int (Int32.ofInt z8)), (6, .int (Int32.ofInt z3)), (4, .long (Int64.ofInt z4)), (0, .ref a_p0), (1, .long (Int64.ofInt x1)), (3, .int (Int32.ofInt x3))]) hx hb dX5_pairsBefore_22 hl (by decide) rfl (fun ls hl => ?_)
        have hq := lq2_i hf
        clear hf
        obtain ⟨B11, eB11, NB11, hf⟩ := hq
        have hB11 : ∀ (n : Nat) (z9 : Int) (z10 : Int) (ls : Array Slot) (H : Heap) (locs : List Loc), lv_has ls 8 [(7, .int (Int32.ofInt z9)), (6, .int (Int32.ofInt z3)), (4, .long (Int64.ofInt z10)), (0, .ref a_p0), (1, .long (Int64.ofInt x1)), (3, .int (Int32.ofInt x3))] → va_P D vwCl [(a_p0, .inr (5, [.ref a_p0_kitchen, .ref a_p0_good, .ref a_p0_row])), (a_p0_kitchen, .inr (2, [.ref a_p0_kitchen_rules, .ref a_p0_kitchen_state, .ref a_p0_kitchen_places, .ref a_p0_kitchen_holders, .ref a_p0_kitchen_stirred])), (a_p0_kitchen_rules, .inr (6, [.int (Int32.ofInt i_p0_kitchen_rules_seats), .int (Int32.ofInt i_p0_kitchen_rules_stirs), .ref a_p0_kitchen_rules_need, .ref a_p0_kitchen_rules_kind, .ref a_p0_kitchen_rules_first, .ref a_p0_kitchen_rules_second, .ref a_p0_kitchen_rules_after])), (a_p0_kitchen_rules_after, .inl (G 1, 35, .inl (zA v_p0_kitchen_rules_after))), (a_p0_kitchen_holders, .inl (G 1, 49, .inl (zA v_p0_kitchen_holders)))] H → va_D A [(a_p0, .inr (5, [.ref a_p0_kitchen, .ref a_p0_good, .ref a_p0_row])), (a_p0_kitchen, .inr (2, [.ref a_p0_kitchen_rules, .ref a_p0_kitchen_state, .ref a_p0_kitchen_places, .ref a_p0_kitchen_holders, .ref a_p0_kitchen_stirred])), (a_p0_kitchen_rules, .inr (6, [.int (Int32.ofInt i_p0_kitchen_rules_seats), .int (Int32.ofInt i_p0_kitchen_rules_stirs), .ref a_p0_kitchen_rules_need, .ref a_p0_kitchen_rules_kind, .ref a_p0_kitchen_rules_first, .ref a_p0_kitchen_rules_second, .ref a_p0_kitchen_rules_after])), (a_p0_kitchen_rules_after, .inl (G 1, 35, .inl (zA v_p0_kitchen_rules_after))), (a_p0_kitchen_holders, .inl (G 1, 49, .inl (zA v_p0_kitchen_holders)))] → va_S A s.heap H locs → lq2 B11 n z9 z10 = some r → W p l e rm_X5_pairsBefore s m ([.ref a_p0, .long (Int64.ofInt x1), .int (Int32.ofInt x3)] : List Value).toArray below meth c H locs 0 0 Q (F0 m 24 ls []) := by
          clear hf hl hP hD hS
          intro n
          induction n with
          | zero =>
            intro z9 z10 ls H locs hl hP hD hS hf
            exact (lq2_0 hf).elim
          | succ n ih24 =>
            intro z9 z10 ls H locs hl hP hD hS hf
            replace hf := lq2_s eB11 hf
            unfold B_X5_pairsBefore_24 at hf
            refine lv_iload hx hb dX5_pairsBefore_24 (lv_at hl 0 rfl) ?_
            refine lv_aload_n hx hb dX5_pairsBefore_26 rfl (lv_at hl 3 rfl) ?_
            refine va_get (D := D) (ci := 5) (v := .ref a_p0_kitchen) (C := RX5) (T := TX5) (N := 3) hx hb hts inX5_pairsBefore_X5 hown hK hP 0 rfl rfl 0 (by decide) (hts _ mwX5_pairsBefore_1) (fun _ h9 => h9) rfl dX5_pairsBefore_27 ?_
            refine va_get (D := D) (ci := 2) (v := .ref a_p0_kitchen_rules) (C := RX2) (T := TX2) (N := 5) hx hb hts inX5_pairsBefore_X2 hown hK hP 1 rfl rfl 0 (by decide) (hts _ mwX5_pairsBefore_3) (fun _ h9 => h9) rfl dX5_pairsBefore_30 ?_
            refine va_get (D := D) (ci := 6) (v := .int (Int32.ofInt i_p0_kitchen_rules_seats)) (C := RX6) (T := TX6) (N := 7) hx hb hts inX5_pairsBefore_X6 hown hK hP 2 rfl rfl 0 (by decide) (hts _ mwX5_pairsBefore_5) (fun _ h9 => h9) rfl dX5_pairsBefore_33 ?_
            have hr11 := ck_c hf
            replace hf := ck_r hf
            refine lv_icmp_ge (tgt := 72) hx hb dX5_pairsBefore_36 (by decide) (fun cc => ?_) (fun cc => ?_)
            ·
              replace hf := ite_t ((z_le hr6 hr11).mp cc) hf
              clear cc
              obtain ⟨z13, ez⟩ : ∃ y : Int, y = (z3 + (1 : Int)) := ⟨_, rfl⟩
              replace hf := bnd_s hf ez
              refine lv_iinc (v := Int32.ofInt z13) (lv' := [(6, .int (Int32.ofInt z13)), (7, .int (Int32.ofInt z9)), (4, .long (Int64.ofInt z10)), (0, .ref a_p0), (1, .long (Int64.ofInt x1)), (3, .int (Int32.ofInt x3))]) hx hb dX5_pairsBefore_72 hl (k := 1) rfl (by rw [ez]; exact (Int32.ofInt_add _ _).symm) (by decide) rfl (fun ls hl => ?_)
              clear ez
              refine lv_goto (tgt := 6) hx hb dX5_pairsBefore_75 (by decide) ?_
              exact ih6 _ _ _ _ _ (lv_sub hl [0, 2, 3, 4, 5] rfl) hP hD hS hf
            ·
              replace hf := ite_f (fun h9 => cc ((z_le hr6 hr11).mpr h9)) hf
              clear cc
              refine lv_aload_n hx hb dX5_pairsBefore_39 rfl (lv_at hl 3 rfl) ?_
              refine lv_lload_n hx hb dX5_pairsBefore_40 rfl (lv_at hl 4 rfl) ?_
              refine lv_iload hx hb dX5_pairsBefore_41 (lv_at hl 1 rfl) ?_
              refine lv_iload hx hb dX5_pairsBefore_43 (lv_at hl 0 rfl) ?_
              refine lv_iload_n hx hb dX5_pairsBefore_45 rfl (lv_at hl 5 rfl) ?_
              have hq := bd1_s hf
              clear hf
              obtain ⟨z14, hcall, hf⟩ := hq
              refine gnI (va_runV (As := [.long (Int64.ofInt x1), .int (Int32.ofInt z3), .int (Int32.ofInt z9), .int (Int32.ofInt x3)]) (rest := []) ⟨hx, hb, hml, hown, hts⟩ (c_X5_firstStirInto (l := l) (D := D) (G := G) (sz := H.size) (a_p0 := a_p0) (a_p0_kitchen := a_p0_kitchen) (a_p0_good := a_p0_good) (a_p0_row := a_p0_row) (a_p0_kitchen_rules := a_p0_kitchen_rules) (a_p0_kitchen_state := a_p0_kitchen_state) (a_p0_kitchen_places := a_p0_kitchen_places) (a_p0_kitchen_holders := a_p0_kitchen_holders) (a_p0_kitchen_stirred := a_p0_kitchen_stirred) (a_p0_kitchen_rules_need := a_p0_kitchen_rules_need) (a_p0_kitchen_rules_kind := a_p0_kitchen_rules_kind) (a_p0_kitchen_rules_first := a_p0_kitchen_rules_first) (a_p0_kitchen_rules_second := a_p0_kitchen_rules_second) (a_p0_kitchen_rules_after := a_p0_kitchen_rules_after) (i_p0_kitchen_rules_seats := i_p0_kitchen_rules_seats) (i_p0_kitchen_rules_stirs := i_p0_kitchen_rules_stirs) (v_p0_kitchen_rules_after := v_p0_kitchen_rules_after) (v_p0_kitchen_holders := v_p0_kitchen_holders) (x1 := x1) (x3 := z3) (x4 := z9) (x5 := x3) (r := z14) (hf := hcall)) (cwV 4 hts gX5_pairsBefore_X5_firstStirInto rfl rfl rfl hdV_yX5_firstStirInto_RX5 ⟨Nat.le_of_ble_eq_true rfl, Nat.le_of_ble_eq_true rfl⟩) (preG_V (ci := 5) (q := (RX5, TX5, 3)) (hP.sub [0, 1, 2, 3, 4] rfl) (hD.sub [0, 1, 2, 3, 4] rfl rfl) hK rfl rfl) rfl rfl hl.1 rfl (lv_room (Nat.le_of_ble_eq_true rfl)) dX5_pairsBefore_46 ⟨Nat.le_of_ble_eq_true rfl, Nat.le_of_ble_eq_true rfl⟩) hP hD hS hA [0, 1, 2, 3, 4] rfl (fun H locs hP hD hS => ?_)
              clear hcall
              refine lv_bipush (v := Int32.ofInt (-4 : Int)) hx hb dX5_pairsBefore_49 (by decide) ?_
              have hr14 := ck_c hf
              replace hf := ck_r hf
              refine lv_icmp_eq (tgt := 66) hx hb dX5_pairsBefore_51 (by decide) (fun cc => ?_) (fun cc => ?_)
              ·
                replace hf := ite_t ((z_eq hr14 (by decide)).mp cc) hf
                clear cc
                obtain ⟨z16, ez⟩ : ∃ y : Int, y = (z9 + (1 : Int)) := ⟨_, rfl⟩
                replace hf := bnd_s hf ez
                refine lv_iinc (v := Int32.ofInt z16) (lv' := [(7, .int (Int32.ofInt z16)), (6, .int (Int32.ofInt z3)), (4, .long (Int64.ofInt z10)), (0, .ref a_p0), (1, .long (Int64.ofInt x1)), (3, .int (Int32.ofInt x3))]) hx hb dX5_pairsBefore_66 hl (k := 0) rfl (by rw [ez]; exact (Int32.ofInt_add _ _).symm) (by decide) rfl (fun ls hl => ?_)
                clear ez
                refine lv_goto (tgt := 24) hx hb dX5_pairsBefore_69 (by decide) ?_
                exact ih24 _ _ _ _ _ (lv_sub hl [0, 1, 2, 3, 4, 5] rfl) hP hD hS hf
              ·
                replace hf := ite_f (fun h9 => cc ((z_eq hr14 (by decide)).mpr h9)) hf
                clear cc
                refine lv_lload hx hb dX5_pairsBefore_54 (lv_at hl 2 rfl) ?_
                refine lv_iload hx hb dX5_pairsBefore_56 (lv_at hl 1 rfl) ?_
                refine lv_iload hx hb dX5_pairsBefore_58 (lv_at hl 0 rfl) ?_
                have hq := bd1_s hf
                clear hf
                obtain ⟨z17, hcall, hf⟩ := hq
                refine gnL (va_runS (As := [.int (Int32.ofInt z3), .int (Int32.ofInt z9)]) (rest := [.long (Int64.ofInt z10)]) ⟨hx, hb, hml, hown, hts⟩ (c_X5_bitOf (l := l) (D := D) (G := G) (sz := H.size) (x0 := z3) (x1 := z9) (r := z17) (hf := hcall)) (va_cwS 2 hts gX5_pairsBefore_X5_bitOf rfl rfl rfl (by decide +kernel) ⟨Nat.le_of_ble_eq_true rfl, Nat.le_of_ble_eq_true rfl⟩) (preG_S (hP.sub [] rfl) (hD.sub [] rfl rfl) hK) rfl rfl hl.1 rfl (lv_room (Nat.le_of_ble_eq_true rfl)) dX5_pairsBefore_60 ⟨Nat.le_of_ble_eq_true rfl, Nat.le_of_ble_eq_true rfl⟩) hP hD hS hA [] rfl (fun H locs hP hD hS => ?_)
                clear hcall
                refine lv_lor hx hb dX5_pairsBefore_63 (z_cl (w_or_e z10 z17) ?_)
                refine z_topl (fun z18 ez => ?_)
                replace hf := bnd_s hf ez
                clear ez
                refine lv_lstore (lv' := [(4, .long (Int64.ofInt z18)), (7, .int (Int32.ofInt z9)), (6, .int (Int32.ofInt z3)), (0, .ref a_p0), (1, .long (Int64.ofInt x1)), (3, .int (Int32.ofInt x3))]) hx hb dX5_pairsBefore_64 hl (by decide) rfl (fun ls hl => ?_)
                obtain ⟨z19, ez⟩ : ∃ y : Int, y = (z9 + (1 : Int)) := ⟨_, rfl⟩
                replace hf := bnd_s hf ez
                refine lv_iinc (v := Int32.ofInt z19) (lv' := [(7, .int (Int32.ofInt z19)), (4, .long (Int64.ofInt z18)), (6, .int (Int32.ofInt z3)), (0, .ref a_p0), (1, .long (Int64.ofInt x1)), (3, .int (Int32.ofInt x3))]) hx hb dX5_pairsBefore_66 hl (k := 1) rfl (by rw [ez]; exact (Int32.ofInt_add _ _).symm) (by decide) rfl (fun ls hl => ?_)
                clear ez
                refine lv_goto (tgt := 24) hx hb dX5_pairsBefore_69 (by decide) ?_
                exact ih24 _ _ _ _ _ (lv_sub hl [0, 2, 1, 3, 4, 5] rfl) hP hD hS hf
        exact hB11 _ _ _ _ _ _ (lv_sub hl [0, 1, 2, 3, 4, 5] rfl) hP hD hS hf
  exact hB5 _ _ _ _ _ _ (lv_sub hl [0, 1, 2, 3, 4] rfl) hP hD hS hf

noncomputable def f_X5_isGoodNow (i_p0_kitchen_state_bone : Int) (i_p0_kitchen_state_king : Int) (v_p0_good : (Int → Int)) (x1 : Int) : Option (Int) := (ck (z_ix x1 11) (bd1 (f_X5_bitOf i_p0_kitchen_state_king i_p0_kitchen_state_bone) (fun (z1 : Int) => (ck (z_r64 (w_and (v_p0_good x1) z1)) (ck (z_r32 (z_cmp (w_and (v_p0_good x1) z1) (0 : Int))) (if (z_cmp (w_and (v_p0_good x1) z1) (0 : Int)) = (0 : Int) then (some (0 : Int)) else (some (1 : Int))))))))
abbrev rm_X5_isGoodNow : Room := { frames := 1, cells := 0, slots := 0, locals := 21 }
theorem inX5_isGoodNow_X5 : ∀ w ∈ wsX50, w ∈ wsX5_isGoodNow := by first | exact fun w h => List.mem_cons_of_mem _ (List.mem_append_left _ (List.mem_append_left _ (List.mem_append_right _ h))) | decide +kernel
theorem mwX5_isGoodNow_1 : Cond.fieldLink RX5 9 "LadleKings$Plans" "good" "[J" ∈ wsX5_isGoodNow := by first | exact List.mem_of_getElem? (i := 1) rfl | decide +kernel
theorem mwX5_isGoodNow_2 : Cond.fieldLink RX5 19 "LadleKings$Plans" "kitchen" "LLadleKings$Kitchen;" ∈ wsX5_isGoodNow := by first | exact List.mem_of_getElem? (i := 2) rfl | decide +kernel
theorem inX5_isGoodNow_X2 : ∀ w ∈ wsX20, w ∈ wsX5_isGoodNow := by first | exact fun w h => List.mem_cons_of_mem _ (List.mem_append_left _ (List.mem_append_right _ h)) | decide +kernel
theorem mwX5_isGoodNow_4 : Cond.fieldLink RX5 62 "LadleKings$Kitchen" "state" "LLadleKings$State;" ∈ wsX5_isGoodNow := by first | exact List.mem_of_getElem? (i := 3) rfl | decide +kernel
theorem inX5_isGoodNow_X8 : ∀ w ∈ wsX80, w ∈ wsX5_isGoodNow := by first | exact fun w h => List.mem_cons_of_mem _ (List.mem_append_right _ h) | decide +kernel
theorem mwX5_isGoodNow_6 : Cond.fieldLink RX5 66 "LadleKings$State" "king" "I" ∈ wsX5_isGoodNow := by first | exact List.mem_of_getElem? (i := 4) rfl | decide +kernel
theorem mwX5_isGoodNow_7 : Cond.fieldLink RX5 71 "LadleKings$State" "bone" "I" ∈ wsX5_isGoodNow := by first | exact List.mem_of_getElem? (i := 5) rfl | decide +kernel
set_option maxHeartbeats 8000000 in
set_option maxRecDepth 100000 in
theorem c_X5_isGoodNow (l : Launch) (D : va_G) (G : Nat → ClassId) (sz : Nat) (a_p0 : Nat) (a_p0_kitchen : Nat) (a_p0_good : Nat) (a_p0_row : Nat) (a_p0_kitchen_rules : Nat) (a_p0_kitchen_state : Nat) (a_p0_kitchen_places : Nat) (a_p0_kitchen_holders : Nat) (a_p0_kitchen_stirred : Nat) (a_p0_kitchen_state_pieces : Nat) (a_p0_kitchen_state_friends : Nat) (a_p0_kitchen_state_spoons : Nat) (a_p0_kitchen_state_eaten : Nat) (a_p0_kitchen_state_seen : Nat) (i_p0_kitchen_state_seenDays : Int) (i_p0_kitchen_state_bone : Int) (i_p0_kitchen_state_king : Int) (i_p0_kitchen_state_days : Int) (v_p0_good : (Int → Int)) (x1 : Int) (r : Int) (hf : f_X5_isGoodNow i_p0_kitchen_state_bone i_p0_kitchen_state_king v_p0_good x1 = some r) : Met l yX5_isGoodNow wsX5_isGoodNow rm_X5_isGoodNow (pcG D G [.ref a_p0, .int (Int32.ofInt x1)] sz [(a_p0, .inr (5, [.ref a_p0_kitchen, .ref a_p0_good, .ref a_p0_row])), (a_p0_kitchen, .inr (2, [.ref a_p0_kitchen_rules, .ref a_p0_kitchen_state, .ref a_p0_kitchen_places, .ref a_p0_kitchen_holders, .ref a_p0_kitchen_stirred])), (a_p0_kitchen_state, .inr (8, [.ref a_p0_kitchen_state_pieces, .ref a_p0_kitchen_state_friends, .ref a_p0_kitchen_state_spoons, .ref a_p0_kitchen_state_eaten, .ref a_p0_kitchen_state_seen, .int (Int32.ofInt i_p0_kitchen_state_seenDays), .int (Int32.ofInt i_p0_kitchen_state_bone), .int (Int32.ofInt i_p0_kitchen_state_king), .int (Int32.ofInt i_p0_kitchen_state_days)])), (a_p0_good, .inl (G 2, 11, .inr (.inl (zL v_p0_good))))]) (qcI D G (Int32.ofInt r) [(a_p0, .inr (5, [.ref a_p0_kitchen, .ref a_p0_good, .ref a_p0_row])), (a_p0_kitchen, .inr (2, [.ref a_p0_kitchen_rules, .ref a_p0_kitchen_state, .ref a_p0_kitchen_places, .ref a_p0_kitchen_holders, .ref a_p0_kitchen_stirred])), (a_p0_kitchen_state, .inr (8, [.ref a_p0_kitchen_state_pieces, .ref a_p0_kitchen_state_friends, .ref a_p0_kitchen_state_spoons, .ref a_p0_kitchen_state_eaten, .ref a_p0_kitchen_state_seen, .int (Int32.ofInt i_p0_kitchen_state_seenDays), .int (Int32.ofInt i_p0_kitchen_state_bone), .int (Int32.ofInt i_p0_kitchen_state_king), .int (Int32.ofInt i_p0_kitchen_state_days)])), (a_p0_good, .inl (G 2, 11, .inr (.inl (zL v_p0_good))))] (va_A [(a_p0, .inr (5, [.ref a_p0_kitchen, .ref a_p0_good, .ref a_p0_row])), (a_p0_kitchen, .inr (2, [.ref a_p0_kitchen_rules, .ref a_p0_kitchen_state, .ref a_p0_kitchen_places, .ref a_p0_kitchen_holders, .ref a_p0_kitchen_stirred])), (a_p0_kitchen_state, .inr (8, [.ref a_p0_kitchen_state_pieces, .ref a_p0_kitchen_state_friends, .ref a_p0_kitchen_state_spoons, .ref a_p0_kitchen_state_eaten, .ref a_p0_kitchen_state_seen, .int (Int32.ofInt i_p0_kitchen_state_seenDays), .int (Int32.ofInt i_p0_kitchen_state_bone), .int (Int32.ofInt i_p0_kitchen_state_king), .int (Int32.ofInt i_p0_kitchen_state_days)])), (a_p0_good, .inl (G 2, 11, .inr (.inl (zL v_p0_good))))] sz)) 0 0 (va_A [(a_p0, .inr (5, [.ref a_p0_kitchen, .ref a_p0_good, .ref a_p0_row])), (a_p0_kitchen, .inr (2, [.ref a_p0_kitchen_rules, .ref a_p0_kitchen_state, .ref a_p0_kitchen_places, .ref a_p0_kitchen_holders, .ref a_p0_kitchen_stirred])), (a_p0_kitchen_state, .inr (8, [.ref a_p0_kitchen_state_pieces, .ref a_p0_kitchen_state_friends, .ref a_p0_kitchen_state_spoons, .ref a_p0_kitchen_state_eaten, .ref a_p0_kitchen_state_seen, .int (Int32.ofInt i_p0_kitchen_state_seenDays), .int (Int32.ofInt i_p0_kitchen_state_bone), .int (Int32.ofInt i_p0_kitchen_state_king), .int (Int32.ofInt i_p0_kitchen_state_days)])), (a_p0_good, .inl (G 2, 11, .inr (.inl (zL v_p0_good))))] sz) := by
  refine Met.ofW (cc := cX5_isGoodNow) (maxL := 2) (ret := (some .boolean)) (by decide) rfl ?_
  intro p e s m args below meth c s₁ B hml hv
  obtain ⟨rfl, hsz, hP, hK, hD0⟩ := hv
  have hx := B.exec
  have hb := B.bytes
  have hr := B.returns
  have hts := atoms_spec (ws := wsX5_isGoodNow) B.pre
  have hown : s.vm.findClass RX5 = some m.cls := findClass_of_methodNamed B.named
  have hlocks := B.notSynchronized
  subst hsz
  have hD := hD0.self (sz := s.heap.size)
  generalize hAe : va_A [(a_p0, .inr (5, [.ref a_p0_kitchen, .ref a_p0_good, .ref a_p0_row])), (a_p0_kitchen, .inr (2, [.ref a_p0_kitchen_rules, .ref a_p0_kitchen_state, .ref a_p0_kitchen_places, .ref a_p0_kitchen_holders, .ref a_p0_kitchen_stirred])), (a_p0_kitchen_state, .inr (8, [.ref a_p0_kitchen_state_pieces, .ref a_p0_kitchen_state_friends, .ref a_p0_kitchen_state_spoons, .ref a_p0_kitchen_state_eaten, .ref a_p0_kitchen_state_seen, .int (Int32.ofInt i_p0_kitchen_state_seenDays), .int (Int32.ofInt i_p0_kitchen_state_bone), .int (Int32.ofInt i_p0_kitchen_state_king), .int (Int32.ofInt i_p0_kitchen_state_days)])), (a_p0_good, .inl (G 2, 11, .inr (.inl (zL v_p0_good))))] s.heap.size = A at hD ⊢
  have hA : ∀ q : Nat, s.heap.size ≤ q → A q := fun q h => by rw [← hAe]; exact Or.inr h
  clear hAe hD0
  have hS : va_S A s.heap s.heap [] := va_S.rf
  have hl := lv_entry ([.ref a_p0, .int (Int32.ofInt x1)]) (n := 2) (Nat.le_of_ble_eq_true rfl)
  rw [lg_entry_eq]
  generalize (lg_sl ([.ref a_p0, .int (Int32.ofInt x1)]) ++ List.replicate (2 - (lg_sl ([.ref a_p0, .int (Int32.ofInt x1)])).length) Slot.unset).toArray = ls at hl ⊢
  have hl : lv_has ls 2 [(0, .ref a_p0), (1, .int (Int32.ofInt x1))] := hl
  refine W_nameQ (fun Q hQ => ?_)
  obtain ⟨H, hH⟩ : ∃ H, H = s.heap := ⟨_, rfl⟩
  replace hS : va_S A s.heap H [] := by rw [hH]; exact hS
  replace hP : va_P D vwCl [(a_p0, .inr (5, [.ref a_p0_kitchen, .ref a_p0_good, .ref a_p0_row])), (a_p0_kitchen, .inr (2, [.ref a_p0_kitchen_rules, .ref a_p0_kitchen_state, .ref a_p0_kitchen_places, .ref a_p0_kitchen_holders, .ref a_p0_kitchen_stirred])), (a_p0_kitchen_state, .inr (8, [.ref a_p0_kitchen_state_pieces, .ref a_p0_kitchen_state_friends, .ref a_p0_kitchen_state_spoons, .ref a_p0_kitchen_state_eaten, .ref a_p0_kitchen_state_seen, .int (Int32.ofInt i_p0_kitchen_state_seenDays), .int (Int32.ofInt i_p0_kitchen_state_bone), .int (Int32.ofInt i_p0_kitchen_state_king), .int (Int32.ofInt i_p0_kitchen_state_days)])), (a_p0_good, .inl (G 2, 11, .inr (.inl (zL v_p0_good))))] H := by rw [hH]; exact hP
  rw [← hH]
  clear hH
  unfold f_X5_isGoodNow at hf
  refine lv_aload_n hx hb dX5_isGoodNow_0 rfl (lv_at hl 0 rfl) ?_
  refine va_get (D := D) (ci := 5) (v := .ref a_p0_good) (C := RX5) (T := TX5) (N := 3) hx hb hts inX5_isGoodNow_X5 hown hK hP 0 rfl rfl 1 (by decide) (hts _ mwX5_isGoodNow_1) (fun _ h9 => h9) rfl dX5_isGoodNow_1 ?_
  refine lv_iload_n hx hb dX5_isGoodNow_4 rfl (lv_at hl 1 rfl) ?_
  have hc := ck_c hf
  replace hf := ck_r hf
  refine va_lald hx hb hK hP 3 2 rfl rfl (z_ix_in hc) dX5_isGoodNow_5 (z_cl (z_aldL v_p0_good hc) ?_)
  clear hc
  refine lv_aload_n hx hb dX5_isGoodNow_6 rfl (lv_at hl 0 rfl) ?_
  refine va_get (D := D) (ci := 5) (v := .ref a_p0_kitchen) (C := RX5) (T := TX5) (N := 3) hx hb hts inX5_isGoodNow_X5 hown hK hP 0 rfl rfl 0 (by decide) (hts _ mwX5_isGoodNow_2) (fun _ h9 => h9) rfl dX5_isGoodNow_7 ?_
  refine va_get (D := D) (ci := 2) (v := .ref a_p0_kitchen_state) (C := RX2) (T := TX2) (N := 5) hx hb hts inX5_isGoodNow_X2 hown hK hP 1 rfl rfl 1 (by decide) (hts _ mwX5_isGoodNow_4) (fun _ h9 => h9) rfl dX5_isGoodNow_10 ?_
  refine va_get (D := D) (ci := 8) (v := .int (Int32.ofInt i_p0_kitchen_state_king)) (C := RX8) (T := TX8) (N := 9) hx hb hts inX5_isGoodNow_X8 hown hK hP 2 rfl rfl 7 (by decide) (hts _ mwX5_isGoodNow_6) (fun _ h9 => h9) rfl dX5_isGoodNow_13 ?_
  refine lv_aload_n hx hb dX5_isGoodNow_16 rfl (lv_at hl 0 rfl) ?_
  refine va_get (D := D) (ci := 5) (v := .ref a_p0_kitchen) (C := RX5) (T := TX5) (N := 3) hx hb hts inX5_isGoodNow_X5 hown hK hP 0 rfl rfl 0 (by decide) (hts _ mwX5_isGoodNow_2) (fun _ h9 => h9) rfl dX5_isGoodNow_17 ?_
  refine va_get (D := D) (ci := 2) (v := .ref a_p0_kitchen_state) (C := RX2) (T := TX2) (N := 5) hx hb hts inX5_isGoodNow_X2 hown hK hP 1 rfl rfl 1 (by decide) (hts _ mwX5_isGoodNow_4) (fun _ h9 => h9) rfl dX5_isGoodNow_20 ?_
  refine va_get (D := D) (ci := 8) (v := .int (Int32.ofInt i_p0_kitchen_state_bone)) (C := RX8) (T := TX8) (N := 9) hx hb hts inX5_isGoodNow_X8 hown hK hP 2 rfl rfl 6 (by decide) (hts _ mwX5_isGoodNow_7) (fun _ h9 => h9) rfl dX5_isGoodNow_23 ?_
  have hq := bd1_s hf
  clear hf
  obtain ⟨z1, hcall, hf⟩ := hq
  refine gnL (va_runS (As := [.int (Int32.ofInt i_p0_kitchen_state_king), .int (Int32.ofInt i_p0_kitchen_state_bone)]) (rest := [.long (Int64.ofInt (v_p0_good x1))]) ⟨hx, hb, hml, hown, hts⟩ (c_X5_bitOf (l := l) (D := D) (G := G) (sz := H.size) (x0 := i_p0_kitchen_state_king) (x1 := i_p0_kitchen_state_bone) (r := z1) (hf := hcall)) (va_cwS 2 hts gX5_isGoodNow_X5_bitOf rfl rfl rfl (by decide +kernel) ⟨Nat.le_of_ble_eq_true rfl, Nat.le_of_ble_eq_true rfl⟩) (preG_S (hP.sub [] rfl) (hD.sub [] rfl rfl) hK) rfl rfl hl.1 rfl (lv_room (Nat.le_of_ble_eq_true rfl)) dX5_isGoodNow_26 ⟨Nat.le_of_ble_eq_true rfl, Nat.le_of_ble_eq_true rfl⟩) hP hD hS hA [] rfl (fun H locs hP hD hS => ?_)
  clear hcall
  refine lv_land hx hb dX5_isGoodNow_29 (z_cl (w_and_e (v_p0_good x1) z1) ?_)
  refine lv_lconst (v := Int64.ofInt (0 : Int)) hx hb dX5_isGoodNow_30 (by decide) ?_
  have hr1 := ck_c hf
  replace hf := ck_r hf
  refine W.lcmp hx hb dX5_isGoodNow_31 (z_ci (z_cmp_e hr1 (by decide)) ?_)
  have hr2 := ck_c hf
  replace hf := ck_r hf
  refine lv_if_eq (tgt := 39) hx hb dX5_isGoodNow_32 (by decide) (fun cc => ?_) (fun cc => ?_)
  ·
    replace hf := ite_t ((z_eq0 hr2).mp cc) hf
    clear cc
    refine lv_iconst (v := Int32.ofInt (0 : Int)) hx hb dX5_isGoodNow_39 (by decide) ?_
    obtain rfl := ou1 hf
    rw [hQ]
    exact W.zret hx hb hr rfl (fun t ht hW => ⟨⟨_, (), rfl, rfl, by rw [ht]; exact hP, va_K.moved hW.alike hK, hD⟩, hS.F ht⟩) hS.2.2 dX5_isGoodNow_40
  ·
    replace hf := ite_f (fun h9 => cc ((z_eq0 hr2).mpr h9)) hf
    clear cc
    refine lv_iconst (v := Int32.ofInt (1 : Int)) hx hb dX5_isGoodNow_35 (by decide) ?_
    refine lv_goto (tgt := 40) hx hb dX5_isGoodNow_36 (by decide) ?_
    obtain rfl := ou1 hf
    rw [hQ]
    exact W.zret hx hb hr rfl (fun t ht hW => ⟨⟨_, (), rfl, rfl, by rw [ht]; exact hP, va_K.moved hW.alike hK, hD⟩, hS.F ht⟩) hS.2.2 dX5_isGoodNow_40
