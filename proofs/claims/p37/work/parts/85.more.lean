set_option maxRecDepth 100000 in
theorem mz_1215 : Cond.laysStatic RX10 "FEWEST" "[I" ∈ lw_tbl := lw_t3 _ (List.mem_of_getElem? (i := 68) rfl)
set_option maxRecDepth 100000 in
theorem mz_1216 : Cond.laysStatic RX10 "MOST" "[I" ∈ lw_tbl := lw_t3 _ (List.mem_of_getElem? (i := 66) rfl)
set_option maxRecDepth 100000 in
theorem mz_1217 : Cond.laysStatic RX10 "FIRST_LOW" "[I" ∈ lw_tbl := lw_t3 _ (List.mem_of_getElem? (i := 100) rfl)
set_option maxRecDepth 100000 in
theorem mz_1218 : Cond.laysStatic RX10 "FIRST_HIGH" "[I" ∈ lw_tbl := lw_t3 _ (List.mem_of_getElem? (i := 104) rfl)
set_option maxRecDepth 100000 in
theorem mz_1219 : Cond.laysStatic RX10 "LATER_LOW" "[I" ∈ lw_tbl := lw_t3 _ (List.mem_of_getElem? (i := 102) rfl)
set_option maxRecDepth 100000 in
theorem mz_1220 : Cond.laysStatic RX10 "LATER_HIGH" "[I" ∈ lw_tbl := lw_t3 _ (List.mem_of_getElem? (i := 106) rfl)
set_option maxRecDepth 100000 in
theorem mz_1221 : Cond.stringRef RX10 120 "seats" ∈ lw_tbl := lw_t2 _ (List.mem_of_getElem? (i := 234) rfl)
set_option maxRecDepth 100000 in
theorem mz_1222 : Cond.stringRef RX10 121 "pot" ∈ lw_tbl := lw_t2 _ (List.mem_of_getElem? (i := 235) rfl)
set_option maxRecDepth 100000 in
theorem mz_1223 : Cond.stringRef RX10 123 "bone" ∈ lw_tbl := lw_t2 _ (List.mem_of_getElem? (i := 236) rfl)
set_option maxRecDepth 100000 in
theorem mz_1224 : Cond.stringRef RX10 125 "king" ∈ lw_tbl := lw_t2 _ (List.mem_of_getElem? (i := 237) rfl)
set_option maxRecDepth 100000 in
theorem mz_1225 : Cond.stringRef RX10 127 "friend" ∈ lw_tbl := lw_t2 _ (List.mem_of_getElem? (i := 238) rfl)
set_option maxRecDepth 100000 in
theorem mz_1226 : Cond.stringRef RX10 129 "spoons" ∈ lw_tbl := lw_t2 _ (List.mem_of_getElem? (i := 239) rfl)
set_option maxRecDepth 100000 in
theorem mz_1227 : Cond.stringRef RX10 131 "need" ∈ lw_tbl := lw_t3 _ (List.mem_of_getElem? (i := 0) rfl)
set_option maxRecDepth 100000 in
theorem mz_1228 : Cond.stringRef RX10 133 "turn" ∈ lw_tbl := lw_t3 _ (List.mem_of_getElem? (i := 1) rfl)
set_option maxRecDepth 100000 in
theorem mz_1229 : Cond.stringRef RX10 135 "flip" ∈ lw_tbl := lw_t3 _ (List.mem_of_getElem? (i := 2) rfl)
set_option maxRecDepth 100000 in
theorem mz_1230 : Cond.stringRef RX10 137 "swap" ∈ lw_tbl := lw_t3 _ (List.mem_of_getElem? (i := 3) rfl)
set_option maxRecDepth 100000 in
theorem mz_1231 : Cond.stringRef RX10 139 "lift" ∈ lw_tbl := lw_t3 _ (List.mem_of_getElem? (i := 4) rfl)
set_option maxRecDepth 100000 in
theorem mz_1232 : Cond.laysStatic RJ0 "COMPACT_STRINGS" "Z" ∈ lw_tbl := lw_t3 _ (List.mem_of_getElem? (i := 18) rfl)
set_option maxRecDepth 100000 in
theorem mz_1233 : Cond.laysStatic RJ3 "SIOOBE_FORMATTER" "Ljava/util/function/BiFunction;" ∈ lw_tbl := lw_t3 _ (List.mem_of_getElem? (i := 34) rfl)
set_option maxRecDepth 100000 in
theorem mz_1234 : Cond.instantiable RX11 15 ∈ lw_tbl := lw_t1 _ (List.mem_of_getElem? (i := 23) rfl)
set_option maxRecDepth 100000 in
theorem mz_1235 : Cond.instantiable RX12 37 ∈ lw_tbl := lw_t5 _ (List.mem_of_getElem? (i := 59) rfl)
set_option maxRecDepth 100000 in
theorem mz_1236 : Cond.arrayOver (.object "LadleKings$State") ∈ lw_tbl := lw_t2 _ (List.mem_of_getElem? (i := 100) rfl)
set_option maxRecDepth 100000 in
theorem mz_1237 : Cond.arrayOver (.object "LadleKings$Sheet") ∈ lw_tbl := lw_t2 _ (List.mem_of_getElem? (i := 102) rfl)
set_option maxRecDepth 100000 in
theorem mz_1238 : Cond.methodLinkNest RX11 9 yX6_init "LadleKings" ∈ lw_tbl := lw_t1 _ (List.mem_of_getElem? (i := 32) rfl)
set_option maxRecDepth 100000 in
theorem mz_1239 : Cond.methodLinkNest RX11 25 yX9_init "LadleKings" ∈ lw_tbl := lw_t1 _ (List.mem_of_getElem? (i := 143) rfl)
set_option maxRecDepth 100000 in
theorem mz_1240 : Cond.methodLinkNest RX10 11 yX6_init "LadleKings" ∈ lw_tbl := lw_t1 _ (List.mem_of_getElem? (i := 179) rfl)
set_option maxRecDepth 100000 in
theorem mz_1241 : Cond.methodLinkNest RX11 106 yX7_init "LadleKings" ∈ lw_tbl := lw_t2 _ (List.mem_of_getElem? (i := 104) rfl)
set_option maxRecDepth 100000 in
theorem mz_1242 : Cond.classLink RL 7 RX11 ∈ lw_tbl := lw_t1 _ (List.mem_of_getElem? (i := 22) rfl)
set_option maxRecDepth 100000 in
theorem mz_1243 : Cond.methodLink RL 9 yX11_init ∈ lw_tbl := lw_t1 _ (List.mem_of_getElem? (i := 24) rfl)
set_option maxRecDepth 100000 in
theorem mz_1244 : Cond.instanceMethod yX11_init ∈ lw_tbl := lw_t1 _ (List.mem_of_getElem? (i := 25) rfl)
set_option maxRecDepth 100000 in
theorem mz_1245 : Cond.classLink RL 10 RX12 ∈ lw_tbl := lw_t5 _ (List.mem_of_getElem? (i := 58) rfl)
set_option maxRecDepth 100000 in
theorem mz_1246 : Cond.methodLink RL 12 yX12_init ∈ lw_tbl := lw_t5 _ (List.mem_of_getElem? (i := 60) rfl)
set_option maxRecDepth 100000 in
theorem mz_1247 : Cond.instanceMethod yX12_init ∈ lw_tbl := lw_t5 _ (List.mem_of_getElem? (i := 61) rfl)
theorem ev_a : ∀ i : Nat, i < 6 → Cond.arrayOf (.static "LadleKings$TextReader" (z_Tn i) "[I") .int ∈ flatC (Jvm.Cond.and given_1 narrow_1) := by first | exact fun i hi => List.mem_of_getElem? ((by decide +kernel : ∀ i : Nat, i < 6 → (flatC (Jvm.Cond.and given_1 narrow_1))[[24, 10, 38, 66, 52, 80].getD i 0]? = some (Cond.arrayOf (.static "LadleKings$TextReader" (z_Tn i) "[I") .int)) i hi) | decide +kernel
theorem ev_l : ∀ i : Nat, i < 6 → Cond.eq (.length (.static "LadleKings$TextReader" (z_Tn i) "[I")) (.int (Int32.ofNat 11)) ∈ flatC (Jvm.Cond.and given_1 narrow_1) := by first | exact fun i hi => List.mem_of_getElem? ((by decide +kernel : ∀ i : Nat, i < 6 → (flatC (Jvm.Cond.and given_1 narrow_1))[[24, 10, 38, 66, 52, 80].getD i 0 + 1]? = some (Cond.eq (.length (.static "LadleKings$TextReader" (z_Tn i) "[I")) (.int (Int32.ofNat 11)))) i hi) | decide +kernel
theorem ev_e : ∀ i : Nat, i < 6 → ∀ j : Nat, j < 11 → Cond.eq (.elem (.static "LadleKings$TextReader" (z_Tn i) "[I") (.int (Int32.ofNat j))) (.int (Int32.ofInt (z_T i (j : Int)))) ∈ flatC (Jvm.Cond.and given_1 narrow_1) := by first | exact fun i hi j hj => List.mem_of_getElem? ((by decide +kernel : ∀ i : Nat, i < 6 → ∀ j : Nat, j < 11 → (flatC (Jvm.Cond.and given_1 narrow_1))[[26, 12, 40, 68, 54, 82].getD i 0 + j]? = some (Cond.eq (.elem (.static "LadleKings$TextReader" (z_Tn i) "[I") (.int (Int32.ofNat j))) (.int (Int32.ofInt (z_T i (j : Int)))))) i hi j hj) | decide +kernel
theorem ev_s1 : ∀ i : Nat, i < 11 → Cond.exactly (.string "LadleKings$TextReader" (z_Sx i)) "java/lang/String" ∈ flatC (Jvm.Cond.and given_1 narrow_1) := by decide +kernel
theorem ev_s2 : ∀ i : Nat, i < 11 → Cond.eq (.field (.string "LadleKings$TextReader" (z_Sx i)) "java/lang/String" "coder" "B") (.int 0) ∈ flatC (Jvm.Cond.and given_1 narrow_1) := by decide +kernel
theorem ev_s3 : ∀ i : Nat, i < 11 → Cond.arrayOf (.field (.string "LadleKings$TextReader" (z_Sx i)) "java/lang/String" "value" "[B") .byte ∈ flatC (Jvm.Cond.and given_1 narrow_1) := by decide +kernel
theorem ev_s4 : ∀ i : Nat, i < 11 → Cond.eq (.length (.field (.string "LadleKings$TextReader" (z_Sx i)) "java/lang/String" "value" "[B")) (.int (Int32.ofNat (z_Sl.getD i 0))) ∈ flatC (Jvm.Cond.and given_1 narrow_1) := by decide +kernel
theorem ev_s5 : ∀ i : Nat, i < 11 → ∀ j : Nat, j < z_Sl.getD i 0 → Cond.eq (.elem (.field (.string "LadleKings$TextReader" (z_Sx i)) "java/lang/String" "value" "[B") (.int (Int32.ofNat j))) (.int ((z_Sb.getD i []).getD j 0)) ∈ flatC (Jvm.Cond.and given_1 narrow_1) := by first | exact fun i hi j hj => List.mem_of_getElem? ((by decide +kernel : ∀ i : Nat, i < 11 → ∀ j : Nat, j < z_Sl.getD i 0 → (flatC (Jvm.Cond.and given_1 narrow_1))[[123, 132, 140, 150, 161, 175, 190, 204, 219, 235, 252].getD i 0 + j]? = some (Cond.eq (.elem (.field (.string "LadleKings$TextReader" (z_Sx i)) "java/lang/String" "value" "[B") (.int (Int32.ofNat j))) (.int ((z_Sb.getD i []).getD j 0)))) i hi j hj) | decide +kernel
theorem ev_s60 : ∀ i : Nat, i < 11 → ∀ j : Nat, j < 11 → i < j → (flatC (Jvm.Cond.and given_1 narrow_1))[[0, 135, 144, 154, 167, 181, 194, 208, 223, 239, 256].getD j 0 + i]? = some (Cond.not (Cond.eq (.string "LadleKings$TextReader" (z_Sx i)) (.string "LadleKings$TextReader" (z_Sx j)))) := by decide +kernel
theorem ev_s6 : ∀ i : Nat, i < 11 → ∀ j : Nat, j < 11 → i ≠ j → Cond.not (Cond.eq (.string "LadleKings$TextReader" (z_Sx i)) (.string "LadleKings$TextReader" (z_Sx j))) ∈ flatC (Jvm.Cond.and given_1 narrow_1) ∨ Cond.not (Cond.eq (.string "LadleKings$TextReader" (z_Sx j)) (.string "LadleKings$TextReader" (z_Sx i))) ∈ flatC (Jvm.Cond.and given_1 narrow_1) := by
  first
  | exact fun i hi j hj hn => (Nat.lt_or_gt_of_ne hn).elim (fun h => Or.inl (List.mem_of_getElem? (ev_s60 i hi j hj h))) (fun h => Or.inr (List.mem_of_getElem? (ev_s60 j hj i hi h)))
  | decide +kernel
theorem ev_c : Cond.eq (.static "java/lang/String" "COMPACT_STRINGS" "Z") (.int 1) ∈ flatC (Jvm.Cond.and given_1 narrow_1) := by decide +kernel
theorem ev_q : Cond.isRef (.static "jdk/internal/util/Preconditions" "SIOOBE_FORMATTER" "Ljava/util/function/BiFunction;") ∈ flatC (Jvm.Cond.and given_1 narrow_1) := by decide +kernel
theorem EV_start {b : Nat} {s : State} {A : Nat → Prop} (hts : ∀ w ∈ lw_tbl, w.before #[Value.ref b] s = true) (hgv : (Jvm.Cond.and given_1 narrow_1).before #[Value.ref b] s = true) (hA : ∀ a : Nat, a < s.heap.size → ¬ A a) : ∃ adT adK adV : Nat → Nat, EV adT adK adV A s s.heap := by
  have hs := flat_of_before _ hgv
  have hlt : ∀ i : Nat, i < 6 → (Cond.laysStatic "LadleKings$TextReader" (z_Tn i) "[I").before #[Value.ref b] s = true := fun i hi => match i, hi with | 0, _ => hts _ mz_1215 | 1, _ => hts _ mz_1216 | 2, _ => hts _ mz_1217 | 3, _ => hts _ mz_1218 | 4, _ => hts _ mz_1219 | 5, _ => hts _ mz_1220 | (k + 6), h => absurd h (by omega)
  have hsr : ∀ i : Nat, i < 11 → (Cond.stringRef "LadleKings$TextReader" (z_Sx i) (z_Sn i)).before #[Value.ref b] s = true := fun i hi => match i, hi with | 0, _ => hts _ mz_1221 | 1, _ => hts _ mz_1222 | 2, _ => hts _ mz_1223 | 3, _ => hts _ mz_1224 | 4, _ => hts _ mz_1225 | 5, _ => hts _ mz_1226 | 6, _ => hts _ mz_1227 | 7, _ => hts _ mz_1228 | 8, _ => hts _ mz_1229 | 9, _ => hts _ mz_1230 | 10, _ => hts _ mz_1231 | (k + 11), h => absurd h (by omega)
  have hT : ∀ i : Nat, ∃ t : Nat, i < 6 → (Term.static "LadleKings$TextReader" (z_Tn i) "[I").eval #[Value.ref b] s none [] s = some (.ref t) ∧ va_T .int t 11 (fun j => .int (Int32.ofInt (z_T i (j : Int)))) A s s.heap := by
    intro i
    by_cases hi : i < 6
    · obtain ⟨t, h1, h2⟩ := va_Tof (N := 11) (f := fun j => .int (Int32.ofInt (z_T i (j : Int)))) (A := A) (tm := .static "LadleKings$TextReader" (z_Tn i) "[I") (ty := .int) (by decide) (hs _ (ev_a i hi)) (va_eqt (hs _ (ev_l i hi))) (fun j hj => va_eqt (hs _ (ev_e i hi j hj))) hA
      exact ⟨t, fun _ => ⟨h1, h2⟩⟩
    · exact ⟨0, fun h => absurd h hi⟩
  obtain ⟨adT, hadT⟩ := Classical.axiomOfChoice hT
  obtain ⟨adK, adV, hS, hK⟩ := vk_Sof (N := 11) (len := z_Sl) (byt := z_Sb) (A := A) (tm := fun i => .string "LadleKings$TextReader" (z_Sx i)) (by decide) (fun i hi => hs _ (ev_s1 i hi)) (fun i hi => hs _ (ev_s2 i hi)) (fun i hi => hs _ (ev_s3 i hi)) (fun i hi => hs _ (ev_s4 i hi)) (fun i hi j hj => hs _ (ev_s5 i hi j hj)) (fun i j hi hj hij => (ev_s6 i hi j hj hij).imp (hs _) (hs _)) hA
  refine ⟨adT, adK, adV, fun i hi => ⟨va_Zref (hlt i hi) (hts _ mz_46) (hadT i hi).1 hA, (hadT i hi).2⟩, va_Zof (hts _ mz_1232) (hts _ mz_138) (va_eqt (hs _ ev_c)) hA, va_Zqof (hts _ mz_1233) (hts _ mz_165) (hs _ ev_q) hA, hS, fun i hi => vk_R.of (hsr i hi) (hK i hi)⟩
