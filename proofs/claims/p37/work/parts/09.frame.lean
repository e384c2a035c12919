/-- cells of a world changed in place -/
def setL (ws : va_W) : List Nat → va_W → va_W
  | i :: is, c :: cs => setL (ws.set i c) is cs
  | [], _ => ws
  | _ :: _, [] => ws
theorem setL_get : ∀ (isC : List Nat) (w1 ws : va_W) (k : Nat) (q : Nat × va_E), isC.length = w1.length → (setL ws isC w1)[k]? = some q → (∃ j : Nat, w1[j]? = some q) ∨ (k ∉ isC ∧ ws[k]? = some q) := by
  intro isC
  induction isC with
  | nil => intro w1 ws k q _ h; exact Or.inr ⟨List.not_mem_nil, by cases w1 <;> exact h⟩
  | cons i is ih =>
    intro w1 ws k q hl h
    cases w1 with
    | nil => cases hl
    | cons c cs =>
      rcases ih cs (ws.set i c) k q (by simpa using hl) h with ⟨j, hj⟩ | ⟨hk, hq⟩
      · exact Or.inl ⟨j + 1, by simpa using hj⟩
      · by_cases e : i = k
        · subst e
          rw [List.getElem?_set_self'] at hq
          cases hw : ws[i]? with
          | none => rw [hw] at hq; cases hq
          | some v =>
            rw [hw] at hq
            exact Or.inl ⟨0, by simpa using hq⟩
        · rw [List.getElem?_set_ne e] at hq
          exact Or.inr ⟨by simp only [List.mem_cons, not_or]; exact ⟨fun h => e h.symm, hk⟩, hq⟩
theorem setL_adr : ∀ (isC : List Nat) (w1 ws : va_W), isC.map (fun i => (ws.map (·.1))[i]?) = w1.map (fun q => some q.1) → (setL ws isC w1).map (·.1) = ws.map (·.1) := by
  intro isC
  induction isC with
  | nil => intro w1 ws _; cases w1 <;> rfl
  | cons i is ih =>
    intro w1 ws h
    cases w1 with
    | nil => rfl
    | cons c cs =>
      simp only [List.map_cons, List.cons.injEq] at h
      have e : (ws.set i c).map (·.1) = ws.map (·.1) := by
        rw [List.map_set]
        apply List.ext_getElem?
        intro n
        by_cases g : i = n
        · subst g
          rw [List.getElem?_set_self', h.1]
          rfl
        · rw [List.getElem?_set_ne g]
      show (setL (ws.set i c) is cs).map (·.1) = _
      rw [ih cs (ws.set i c) (by rw [e]; exact h.2), e]
theorem va_D_adr {A : Nat → Prop} {ws ws' : va_W} (e : ws'.map (·.1) = ws.map (·.1)) (h : va_D A ws) : va_D A ws' := by
  have at' : ∀ (k : Nat) (q : Nat × va_E), ws'[k]? = some q → ∃ q', ws[k]? = some q' ∧ q'.1 = q.1 := by
    intro k q hq
    have h1 : (ws'.map (·.1))[k]? = some q.1 := by rw [List.getElem?_map, hq]; rfl
    rw [e, List.getElem?_map] at h1
    cases hw : ws[k]? with
    | none => rw [hw] at h1; cases h1
    | some v => rw [hw] at h1; exact ⟨v, rfl, Option.some.inj h1⟩
  refine ⟨fun i j p q hp hq hpq => ?_, fun k q hq => ?_⟩
  · obtain ⟨p', h1, h2⟩ := at' i p hp
    obtain ⟨q', h3, h4⟩ := at' j q hq
    exact h.1 i j p' q' h1 h3 (by rw [h2, h4, hpq])
  · obtain ⟨q', h1, h2⟩ := at' k q hq
    rw [← h2]
    exact h.2 k q' h1
section GS
variable {p : Program} {l : Launch} {e : Env} {R : Room} {s : State} {m : MethodId} {args : Array Value} {below : List Frame} {meth : Method} {c : Code} {H H0 : Heap} {locs : List Loc} {cells slots : Nat} {Q : State → Prop} {D : va_G} {G : Nat → ClassId} {A : Nat → Prop}
theorem gs_join {ws wc w1 ws' : va_W} {H1 : Heap} (hP : va_P D vwCl ws H) (hD : va_D A ws) (hS : va_S A H0 H locs) (hA : ∀ q, H0.size ≤ q → A q) (isC : List Nat) (hC : isC.map (fun i => ws[i]?) = wc.map some) (ha : w1.map (·.1) = wc.map (·.1)) (hw : setL ws isC w1 = ws')
    (hk1 : ∀ q : Nat, q < H.size → ¬ va_A wc H.size q → H1[q]? = H[q]?) (hP1 : va_P D vwCl w1 H1) (hD1 : va_D (va_A wc H.size) w1) : va_P D vwCl ws' H1 ∧ va_D A ws' := by
  have hFc := va_free (wc := wc) hD hS hA isC hC
  have hlen : isC.length = w1.length := by
    have h1 := congrArg List.length hC
    have h2 := congrArg List.length ha
    simp only [List.length_map] at h1 h2
    omega
  subst hw
  refine ⟨fun k q h => ?_, va_D_adr (setL_adr isC w1 ws ?_) hD⟩
  · rcases setL_get isC w1 ws k q hlen h with ⟨j, hj⟩ | ⟨hk, hq⟩
    · exact hP1 j q hj
    · exact (va_join (wr := [q]) hP hD isC [k] hC (by simp [hq]) rfl (fun i hi => by rw [List.mem_singleton.mp hi]; exact hk) hk1 hFc hP1 hD1).1 0 q rfl
  · have h1 : isC.map (fun i => (ws.map (·.1))[i]?) = (isC.map (fun i => ws[i]?)).map (fun o => o.map (·.1)) := by
      rw [List.map_map]
      apply List.map_congr_left
      intro i _
      rw [List.getElem?_map]
      rfl
    rw [h1, hC, List.map_map]
    have h2 : wc.map ((fun (o : Option (Nat × va_E)) => o.map (·.1)) ∘ some) = (wc.map (·.1)).map some := by rw [List.map_map]; rfl
    rw [h2, ← ha, List.map_map]
    rfl
theorem gsI {ws wc w1 ws' : va_W} {mc ms pc : Nat} {ls : Array Slot} {st0 rest : List Value} {r : Int32} {a : Array Value}
    (hr : va_Run p l e R s m args below meth c H locs cells slots mc ms (F0 m pc ls st0) rest (qcI D G r w1 (va_A wc H.size) a) (va_A wc H.size))
    (hP : va_P D vwCl ws H) (hD : va_D A ws) (hS : va_S A H0 H locs) (hA : ∀ q, H0.size ≤ q → A q) (isC : List Nat) (hC : isC.map (fun i => ws[i]?) = wc.map some) (ha : w1.map (·.1) = wc.map (·.1)) (hw : setL ws isC w1 = ws')
    (kk : ∀ (H1 : Heap) (locs1 : List Loc), va_P D vwCl ws' H1 → va_D A ws' → va_S A H0 H1 locs1 → W p l e R s m args below meth c H1 locs1 (cells + mc) (slots + ms) Q (F0 m (pc + 3) ls (.int r :: rest))) : W p l e R s m args below meth c H locs cells slots Q (F0 m pc ls st0) := by
  have hFc := va_free (wc := wc) hD hS hA isC hC
  refine va_calli hr hS (fun q _ h => hFc q h) hFc (fun r2 u t H1 locs1 ht hvm hw2 hB hz1 hk1 hS1 => ?_)
  obtain ⟨hP1, hK1, hD1⟩ := hB
  rw [ht] at hP1
  obtain ⟨hP2, hD2⟩ := gs_join hP hD hS hA isC hC ha hw hk1 hP1 hD1
  rw [show r2 = r from hw2]
  exact kk H1 locs1 hP2 hD2 hS1
theorem gsL {ws wc w1 ws' : va_W} {mc ms pc : Nat} {ls : Array Slot} {st0 rest : List Value} {r : Int64} {a : Array Value}
    (hr : va_Run p l e R s m args below meth c H locs cells slots mc ms (F0 m pc ls st0) rest (qcL D G r w1 (va_A wc H.size) a) (va_A wc H.size))
    (hP : va_P D vwCl ws H) (hD : va_D A ws) (hS : va_S A H0 H locs) (hA : ∀ q, H0.size ≤ q → A q) (isC : List Nat) (hC : isC.map (fun i => ws[i]?) = wc.map some) (ha : w1.map (·.1) = wc.map (·.1)) (hw : setL ws isC w1 = ws')
    (kk : ∀ (H1 : Heap) (locs1 : List Loc), va_P D vwCl ws' H1 → va_D A ws' → va_S A H0 H1 locs1 → W p l e R s m args below meth c H1 locs1 (cells + mc) (slots + ms) Q (F0 m (pc + 3) ls (.long r :: rest))) : W p l e R s m args below meth c H locs cells slots Q (F0 m pc ls st0) := by
  have hFc := va_free (wc := wc) hD hS hA isC hC
  refine va_calll hr hS (fun q _ h => hFc q h) hFc (fun r2 u t H1 locs1 ht hvm hw2 hB hz1 hk1 hS1 => ?_)
  obtain ⟨hP1, hK1, hD1⟩ := hB
  rw [ht] at hP1
  obtain ⟨hP2, hD2⟩ := gs_join hP hD hS hA isC hC ha hw hk1 hP1 hD1
  rw [show r2 = r from hw2]
  exact kk H1 locs1 hP2 hD2 hS1
theorem gsV {ws wc w1 ws' : va_W} {mc ms pc : Nat} {ls : Array Slot} {st0 rest : List Value} {a : Array Value}
    (hr : va_Run p l e R s m args below meth c H locs cells slots mc ms (F0 m pc ls st0) rest (qcV D G w1 (va_A wc H.size) a) (va_A wc H.size))
    (hP : va_P D vwCl ws H) (hD : va_D A ws) (hS : va_S A H0 H locs) (hA : ∀ q, H0.size ≤ q → A q) (isC : List Nat) (hC : isC.map (fun i => ws[i]?) = wc.map some) (ha : w1.map (·.1) = wc.map (·.1)) (hw : setL ws isC w1 = ws')
    (kk : ∀ (H1 : Heap) (locs1 : List Loc), va_P D vwCl ws' H1 → va_D A ws' → va_S A H0 H1 locs1 → W p l e R s m args below meth c H1 locs1 (cells + mc) (slots + ms) Q (F0 m (pc + 3) ls rest)) : W p l e R s m args below meth c H locs cells slots Q (F0 m pc ls st0) := by
  have hFc := va_free (wc := wc) hD hS hA isC hC
  refine va_callv hr hS (fun q _ h => hFc q h) hFc (fun u t H1 locs1 ht hvm hw2 hB hz1 hk1 hS1 => ?_)
  obtain ⟨hP1, hK1, hD1⟩ := hB
  rw [ht] at hP1
  obtain ⟨hP2, hD2⟩ := gs_join hP hD hS hA isC hC ha hw hk1 hP1 hD1
  exact kk H1 locs1 hP2 hD2 hS1
/-- behind a call that made cells: the others, and the callee's world -/
theorem gc_joinA {ws wc wr w1 ws' : va_W} {H1 : Heap} (hP : va_P D vwCl ws H) (hD : va_D A ws) (hS : va_S A H0 H locs) (hA : ∀ q, H0.size ≤ q → A q) (isC isR : List Nat) (hC : isC.map (fun i => ws[i]?) = wc.map some) (hR : isR.map (fun i => ws[i]?) = wr.map some) (hn : va_nd isR = true) (hdis : ∀ i ∈ isR, i ∉ isC) (hw : wr ++ w1 = ws')
    (hk1 : ∀ q : Nat, q < H.size → ¬ va_A wc H.size q → H1[q]? = H[q]?) (hP1 : va_P D vwCl w1 H1) (hD1 : va_D (va_A wc H.size) w1) : va_P D vwCl ws' H1 ∧ va_D A ws' := by
  have hFc := va_free (wc := wc) hD hS hA isC hC
  subst hw
  exact va_join hP hD isC isR hC hR hn hdis hk1 hFc hP1 hD1
end GS
theorem setL_id : ∀ (isC : List Nat) (wc ws : va_W), isC.map (fun i => ws[i]?) = wc.map some → setL ws isC wc = ws := by
  intro isC
  induction isC with
  | nil => intro wc ws _; cases wc <;> rfl
  | cons i is ih =>
    intro wc ws h
    cases wc with
    | nil => rfl
    | cons c cs =>
      simp only [List.map_cons, List.cons.injEq] at h
      have e : ws.set i c = ws := by
        apply List.ext_getElem?
        intro n
        by_cases g : i = n
        · subst g
          rw [List.getElem?_set_self', h.1]
          rfl
        · rw [List.getElem?_set_ne g]
      show setL (ws.set i c) is cs = ws
      rw [e]
      exact ih cs ws h.2
section GN
variable {p : Program} {l : Launch} {e : Env} {R : Room} {s : State} {m : MethodId} {args : Array Value} {below : List Frame} {meth : Method} {c : Code} {H H0 : Heap} {locs : List Loc} {cells slots : Nat} {Q : State → Prop} {D : va_G} {G : Nat → ClassId} {A : Nat → Prop}
theorem gnI {ws wc : va_W} {mc ms pc : Nat} {ls : Array Slot} {st0 rest : List Value} {r : Int32} {a : Array Value}
    (hr : va_Run p l e R s m args below meth c H locs cells slots mc ms (F0 m pc ls st0) rest (qcI D G r wc (va_A wc H.size) a) (va_A wc H.size))
    (hP : va_P D vwCl ws H) (hD : va_D A ws) (hS : va_S A H0 H locs) (hA : ∀ q, H0.size ≤ q → A q) (isC : List Nat) (hC : isC.map (fun i => ws[i]?) = wc.map some)
    (kk : ∀ (H1 : Heap) (locs1 : List Loc), va_P D vwCl ws H1 → va_D A ws → va_S A H0 H1 locs1 → W p l e R s m args below meth c H1 locs1 (cells + mc) (slots + ms) Q (F0 m (pc + 3) ls (.int r :: rest))) : W p l e R s m args below meth c H locs cells slots Q (F0 m pc ls st0) :=
  gsI hr hP hD hS hA isC hC rfl (setL_id isC wc ws hC) kk
theorem gnL {ws wc : va_W} {mc ms pc : Nat} {ls : Array Slot} {st0 rest : List Value} {r : Int64} {a : Array Value}
    (hr : va_Run p l e R s m args below meth c H locs cells slots mc ms (F0 m pc ls st0) rest (qcL D G r wc (va_A wc H.size) a) (va_A wc H.size))
    (hP : va_P D vwCl ws H) (hD : va_D A ws) (hS : va_S A H0 H locs) (hA : ∀ q, H0.size ≤ q → A q) (isC : List Nat) (hC : isC.map (fun i => ws[i]?) = wc.map some)
    (kk : ∀ (H1 : Heap) (locs1 : List Loc), va_P D vwCl ws H1 → va_D A ws → va_S A H0 H1 locs1 → W p l e R s m args below meth c H1 locs1 (cells + mc) (slots + ms) Q (F0 m (pc + 3) ls (.long r :: rest))) : W p l e R s m args below meth c H locs cells slots Q (F0 m pc ls st0) :=
  gsL hr hP hD hS hA isC hC rfl (setL_id isC wc ws hC) kk
theorem gnV {ws wc : va_W} {mc ms pc : Nat} {ls : Array Slot} {st0 rest : List Value} {a : Array Value}
    (hr : va_Run p l e R s m args below meth c H locs cells slots mc ms (F0 m pc ls st0) rest (qcV D G wc (va_A wc H.size) a) (va_A wc H.size))
    (hP : va_P D vwCl ws H) (hD : va_D A ws) (hS : va_S A H0 H locs) (hA : ∀ q, H0.size ≤ q → A q) (isC : List Nat) (hC : isC.map (fun i => ws[i]?) = wc.map some)
    (kk : ∀ (H1 : Heap) (locs1 : List Loc), va_P D vwCl ws H1 → va_D A ws → va_S A H0 H1 locs1 → W p l e R s m args below meth c H1 locs1 (cells + mc) (slots + ms) Q (F0 m (pc + 3) ls rest)) : W p l e R s m args below meth c H locs cells slots Q (F0 m pc ls st0) :=
  gsV hr hP hD hS hA isC hC rfl (setL_id isC wc ws hC) kk
end GN
