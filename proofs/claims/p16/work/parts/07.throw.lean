/-- the same walk, begun here: nothing written or made so far -/
theorem st_re {p : Program} {l : Launch} {e : Env} {R : Room} {s : State} {m : MethodId} {args : Array Value} {below : List Frame} {meth : Method} {c : Code} {T : State} {locs : List Loc} {cells slots : Nat} (X : Stand p l e R s m args below meth c T locs cells slots) (h1 : cells ≤ R.cells) (h2 : slots ≤ R.slots) :
    Stand p l e { R with cells := R.cells - cells, slots := R.slots - slots } (T.setFrames (.invoking m args :: below)) m args below meth c T [] 0 0 := by
  obtain ⟨g₀, hg0⟩ := Option.isSome_iff_exists.mp X.here.top
  obtain ⟨r, hr⟩ := State.topJava?_eq_some.mp hg0
  obtain ⟨t0, ht0, -⟩ := State.frames_cons hr
  have hlt : T.cur < T.threads.size := (Array.getElem?_eq_some_iff.mp ht0).1
  have hfr : (T.setFrames (.invoking m args :: below)).frames = .invoking m args :: below := State.frames_setFrames _ hlt
  have hback : (T.setFrames (.invoking m args :: below)).setFrames T.frames = T := by rw [State.setFrames_setFrames]; exact State.setFrames_self ht0
  refine ⟨X.admits, X.cas, X.clock, hfr, ?_, ?_, X.method', X.code, X.here, X.tail, State.WarmedH.refl _, (State.stackLimits_setFrames _ _ _).symm, (State.stackBytes_setFrames _ _).symm, ?_⟩
  · have h := X.room
    have hu := State.localsInUse_invoking X.frames X.method X.code
    have hu' := State.localsInUse_invoking (s := T.setFrames (.invoking m args :: below)) hfr X.method' X.code
    have hz := X.heapSize
    have hw := X.used
    have hbk := X.book
    simp only [State.hasRoom, Bool.and_eq_true, decide_eq_true_eq] at h ⊢
    obtain ⟨⟨⟨⟨a1, a2, a3, a4, a5, a6⟩, a7⟩, a8⟩, a9⟩ := h
    rw [hu] at a1 a4 a5
    rw [X.frames] at a2 a3
    refine ⟨⟨⟨⟨by rw [hu']; exact a1, by rw [hfr]; exact a2, by rw [hfr, State.stackLimits_setFrames, X.limits]; exact a3, by rw [hu']; exact a4, by rw [hu', State.stackLimits_setFrames, X.limits]; exact a5, by rw [State.stackBytes_setFrames, X.bytes]; exact a6⟩, ?_⟩, ?_⟩, ?_⟩
    · show T.heap.size + (R.cells - cells) ≤ _
      omega
    · show T.slotsUsed + (R.slots - slots) ≤ _
      omega
    · exact hbk
  · have h := X.hears
    cases below with
    | nil =>
      simp only [State.hears] at h ⊢
      rw [X.method] at h
      show (T.vm.method? m).any _ = true
      rw [X.method']
      exact h
    | cons f r2 =>
      cases f with
      | java g =>
        simp only [State.hears] at h ⊢
        have e1 : (T.setFrames (.invoking m args :: .java g :: r2)).code? g.method = s.code? g.method := by
          rw [State.code?_eq, State.code?_eq]
          show (T.vm.method? g.method).bind _ = _
          rw [X.warmed.alike.method?]
        rw [e1]
        exact h
      | native g => rfl
      | proc g => rfl
      | _ =>
        simp only [State.hears] at h ⊢
        rw [X.method] at h
        show (T.vm.method? m).any _ = true
        rw [X.method']
        exact h
  · refine ⟨?_, Nat.le_refl _, Nat.le_refl _, ?_, ?_, fun a c hc => ⟨c, hc, rfl, rfl, fun _ _ => rfl⟩⟩
    · show T = { (T.setFrames (.invoking m args :: below)).setFrames T.frames with heap := T.heap, slotsUsed := T.slotsUsed }
      rw [hback]
    · show T.slotsUsed = T.slotsUsed + ((T.heap.toList.drop T.heap.size).map (·.slots.size)).sum
      rw [List.drop_eq_nil_of_le (by simp)]
      rfl
    · show ((T.heap.toList.drop T.heap.size).map (·.slots.size)).sum ≤ 0
      rw [List.drop_eq_nil_of_le (by simp)]
      exact Nat.le_refl 0
