-- a world as a list of components
def fl : List va_W → va_W
  | [] => []
  | c :: cs => c ++ fl cs
def fo : List va_W → Nat → Nat
  | [], _ => 0
  | _ :: _, 0 => 0
  | c :: cs, j + 1 => c.length + fo cs j
theorem fl_at : ∀ {cs : List va_W} {c : va_W} {x : Nat × va_E} (j k : Nat), cs[j]? = some c → c[k]? = some x → (fl cs)[fo cs j + k]? = some x
  | [], c, x, j, k, hj, hk => by simp at hj
  | c0 :: cs, c, x, 0, k, hj, hk => by
    have e : c0 = c := by simpa using hj
    subst e
    show (c0 ++ fl cs)[0 + k]? = some x
    rw [Nat.zero_add, List.getElem?_append_left (List.getElem?_eq_some_iff.mp hk).1]
    exact hk
  | c0 :: cs, c, x, j + 1, k, hj, hk => by
    show (c0 ++ fl cs)[c0.length + fo cs j + k]? = some x
    rw [List.getElem?_append_right (by omega), show c0.length + fo cs j + k - c0.length = fo cs j + k by omega]
    exact fl_at j k (by simpa using hj) hk
theorem fl_mem : ∀ {cs : List va_W} {n : Nat} {q : Nat × va_E}, (fl cs)[n]? = some q → ∃ (j k : Nat) (c : va_W), cs[j]? = some c ∧ c[k]? = some q ∧ n = fo cs j + k
  | [], n, q, h => by simp [fl] at h
  | c0 :: cs, n, q, h => by
    have h : (c0 ++ fl cs)[n]? = some q := h
    by_cases hl : n < c0.length
    · rw [List.getElem?_append_left hl] at h
      exact ⟨0, n, c0, rfl, h, by show n = 0 + n; omega⟩
    · rw [List.getElem?_append_right (by omega)] at h
      obtain ⟨j, k, c, h1, h2, h3⟩ := fl_mem h
      exact ⟨j + 1, k, c, by simpa using h1, h2, by show n = c0.length + fo cs j + k; omega⟩
theorem fo_mono : ∀ {cs : List va_W} {c : va_W} (i j : Nat), i < j → cs[i]? = some c → (∃ d, cs[j]? = some d) → fo cs i + c.length ≤ fo cs j
  | [], c, i, j, h, hi, _ => by simp at hi
  | c0 :: cs, c, 0, j + 1, h, hi, _ => by
    have e : c0 = c := by simpa using hi
    subst e
    show 0 + c0.length ≤ c0.length + fo cs j
    omega
  | c0 :: cs, c, i + 1, j + 1, h, hi, hj => by
    have := fo_mono (cs := cs) (c := c) i j (by omega) (by simpa using hi) (by simpa using hj)
    show c0.length + fo cs i + c.length ≤ c0.length + fo cs j
    omega
theorem fl_apart {A : Nat → Prop} {cs : List va_W} (hD : va_D A (fl cs)) {i j a b : Nat} {c d : va_W} {x y : Nat × va_E} (hi : cs[i]? = some c) (hj : cs[j]? = some d) (ha : c[a]? = some x) (hb : d[b]? = some y) (e : x.1 = y.1) : i = j ∧ a = b := by
  have h := hD.1 _ _ x y (fl_at i a hi ha) (fl_at j b hj hb) e
  have la := (List.getElem?_eq_some_iff.mp ha).1
  have lb := (List.getElem?_eq_some_iff.mp hb).1
  rcases Nat.lt_trichotomy i j with q | q | q
  · have := fo_mono i j q hi ⟨d, hj⟩
    omega
  · subst q
    exact ⟨rfl, by omega⟩
  · have := fo_mono j i q hj ⟨c, hi⟩
    omega
theorem fl_set : ∀ {cs : List va_W} {c : va_W} {x : Nat × va_E} (j k : Nat), cs[j]? = some c → k < c.length → (fl cs).set (fo cs j + k) x = fl (cs.set j (c.set k x))
  | [], c, x, j, k, hj, hk => by simp at hj
  | c0 :: cs, c, x, 0, k, hj, hk => by
    have e : c0 = c := by simpa using hj
    subst e
    show (c0 ++ fl cs).set (0 + k) x = c0.set k x ++ fl cs
    rw [Nat.zero_add, List.set_append_left _ _ hk]
  | c0 :: cs, c, x, j + 1, k, hj, hk => by
    show (c0 ++ fl cs).set (c0.length + fo cs j + k) x = c0 ++ fl (cs.set j (c.set k x))
    rw [List.set_append_right _ _ (by omega), show c0.length + fo cs j + k - c0.length = fo cs j + k by omega, fl_set j k (by simpa using hj) hk]
theorem fl_P {D : va_G} {cl : List vw_C} {cs cs' : List va_W} {c c' : va_W} {x : Nat × va_E} {H : Heap} (j k : Nat) (hj : cs[j]? = some c) (hk : k < c.length) (hc : c.set k x = c') (hs : cs.set j c' = cs') (h : va_P D cl ((fl cs).set (fo cs j + k) x) H) : va_P D cl (fl cs') H := by
  rw [fl_set j k hj hk, hc, hs] at h
  exact h
theorem fl_D {A : Nat → Prop} {cs cs' : List va_W} {c c' : va_W} {x : Nat × va_E} (j k : Nat) (hj : cs[j]? = some c) (hk : k < c.length) (hc : c.set k x = c') (hs : cs.set j c' = cs') (h : va_D A ((fl cs).set (fo cs j + k) x)) : va_D A (fl cs') := by
  rw [fl_set j k hj hk, hc, hs] at h
  exact h
-- putting a callee's components back: each place by itself (a chain of 'set's is too slow to compare)
def lk : Nat → List Nat → List va_W → va_W → va_W
  | n, i :: is, d :: ds, c => if n = i then d else lk n is ds c
  | _, _, _, c => c
def pk : Nat → List va_W → List Nat → List va_W → List va_W
  | _, [], _, _ => []
  | n, c :: cs, is, ds => lk n is ds c :: pk (n + 1) cs is ds
def pl (cs : List va_W) (is : List Nat) (ds : List va_W) : List va_W := pk 0 cs is ds
def adr (c : va_W) : List Nat := c.map (·.1)
theorem lk_at : ∀ (is : List Nat) (ds : List va_W) (n : Nat) (c : va_W), (∃ j : Nat, is[j]? = some n ∧ ds[j]? = some (lk n is ds c)) ∨ (lk n is ds c = c ∧ ∀ j : Nat, is[j]? = some n → j < ds.length → False)
  | [], ds, n, c => Or.inr ⟨by unfold lk; rfl, fun j hj => by simp at hj⟩
  | i :: is, [], n, c => Or.inr ⟨by unfold lk; rfl, fun j _ hl => by simp at hl⟩
  | i :: is, d :: ds, n, c => by
    by_cases h : n = i
    · refine Or.inl ⟨0, by simp [h], ?_⟩
      rw [lk, if_pos h]
      rfl
    · have e : lk n (i :: is) (d :: ds) c = lk n is ds c := by rw [lk, if_neg h]
      rw [e]
      rcases lk_at is ds n c with ⟨j, h1, h2⟩ | ⟨h1, h2⟩
      · exact Or.inl ⟨j + 1, by simpa using h1, by simpa using h2⟩
      · refine Or.inr ⟨h1, fun j hj hl => ?_⟩
        cases j with
        | zero => exact h (by simpa using hj.symm)
        | succ j => exact h2 j (by simpa using hj) (by simpa using hl)
theorem pk_at : ∀ (cs : List va_W) (is : List Nat) (ds : List va_W) (n k : Nat) (p : va_W), (pk n cs is ds)[k]? = some p → ∃ c, cs[k]? = some c ∧ p = lk (n + k) is ds c
  | [], is, ds, n, k, p, h => by simp [pk] at h
  | c :: cs, is, ds, n, 0, p, h => ⟨c, rfl, by rw [pk] at h; simpa using h.symm⟩
  | c :: cs, is, ds, n, k + 1, p, h => by
    rw [pk] at h
    obtain ⟨c2, h1, h2⟩ := pk_at cs is ds (n + 1) k p (by simpa using h)
    exact ⟨c2, by simpa using h1, by rw [h2, show n + 1 + k = n + (k + 1) by omega]⟩
theorem pl_at (is : List Nat) (cs ds : List va_W) (k : Nat) (p : va_W) (h : (pl cs is ds)[k]? = some p) : (∃ j : Nat, is[j]? = some k ∧ ds[j]? = some p) ∨ (cs[k]? = some p ∧ ∀ j : Nat, is[j]? = some k → j < ds.length → False) := by
  obtain ⟨c, h1, h2⟩ := pk_at cs is ds 0 k p h
  rw [Nat.zero_add] at h2
  rcases lk_at is ds k c with ⟨j, g1, g2⟩ | ⟨g1, g2⟩
  · exact Or.inl ⟨j, g1, by rw [h2]; exact g2⟩
  · exact Or.inr ⟨by rw [h2, g1]; exact h1, g2⟩
theorem pl_map {is : List Nat} {cs ccs : List va_W} (h : is.map (fun i => cs[i]?) = ccs.map some) {j k : Nat} (hj : is[j]? = some k) : ∃ c, ccs[j]? = some c ∧ cs[k]? = some c := by
  have h1 : (is.map (fun i => cs[i]?))[j]? = some cs[k]? := by rw [List.getElem?_map, hj]; rfl
  rw [h, List.getElem?_map] at h1
  cases hc : ccs[j]? with
  | none => rw [hc] at h1; cases h1
  | some q => rw [hc] at h1; exact ⟨q, rfl, (Option.some.inj h1).symm⟩
theorem pl_map2 {is : List Nat} {cs ccs : List va_W} (h : is.map (fun i => cs[i]?) = ccs.map some) {j : Nat} {c : va_W} (hc : ccs[j]? = some c) : ∃ k, is[j]? = some k ∧ cs[k]? = some c := by
  have hl := congrArg List.length h
  simp at hl
  have hj : j < is.length := by rw [hl]; exact (List.getElem?_eq_some_iff.mp hc).1
  obtain ⟨c2, g1, g2⟩ := pl_map h (List.getElem?_eq_getElem hj)
  rw [hc] at g1
  cases g1
  exact ⟨is[j], List.getElem?_eq_getElem hj, g2⟩
section FLJ
variable {A : Nat → Prop} {D : va_G} {cl : List vw_C} {cs ccs ds : List va_W} {H H0 H1 : Heap} {locs : List Loc}
theorem fl_sub (hP : va_P D cl (fl cs) H) (is : List Nat) (hC : is.map (fun i => cs[i]?) = ccs.map some) : va_P D cl (fl ccs) H := by
  intro n q hn
  obtain ⟨j, k, c, h1, h2, -⟩ := fl_mem hn
  obtain ⟨i, g1, g2⟩ := pl_map2 hC h1
  exact hP _ q (fl_at i k g2 h2)
theorem fl_subD (hD : va_D A (fl cs)) (is : List Nat) (hC : is.map (fun i => cs[i]?) = ccs.map some) (hn : va_nd is = true) : va_D (fun _ => True) (fl ccs) := by
  refine ⟨fun n1 n2 x y hx hy e => ?_, fun _ _ _ => trivial⟩
  obtain ⟨j1, k1, c1, a1, a2, a3⟩ := fl_mem hx
  obtain ⟨j2, k2, c2, b1, b2, b3⟩ := fl_mem hy
  obtain ⟨i1, g1, g2⟩ := pl_map2 hC a1
  obtain ⟨i2, f1, f2⟩ := pl_map2 hC b1
  obtain ⟨e1, e2⟩ := fl_apart hD g2 f2 a2 b2 e
  subst e1
  have e3 := va_nd_inj is hn j1 j2 i1 g1 f1
  rw [a3, b3, e3, e2]
theorem fl_free (hD : va_D A (fl cs)) (hS : va_S A H0 H locs) (hA : ∀ q, H0.size ≤ q → A q) (is : List Nat) (hC : is.map (fun i => cs[i]?) = ccs.map some) : ∀ q, va_A (fl ccs) H.size q → A q := by
  intro q h
  rcases h with ⟨n, e, h⟩ | h
  · obtain ⟨j, k, c, h1, h2, -⟩ := fl_mem h
    obtain ⟨i, g1, g2⟩ := pl_map2 hC h1
    exact hD.2 _ (q, e) (fl_at i k g2 h2)
  · exact hA q (Nat.le_trans hS.1 h)
theorem fl_join (hP : va_P D cl (fl cs) H) (hD : va_D A (fl cs)) (is : List Nat) (hC : is.map (fun i => cs[i]?) = ccs.map some) (ha : ds.map adr = ccs.map adr)
    (hk : ∀ q : Nat, q < H.size → ¬ va_A (fl ccs) H.size q → H1[q]? = H[q]?) (hP1 : va_P D cl (fl ds) H1) : va_P D cl (fl (pl cs is ds)) H1 ∧ va_D A (fl (pl cs is ds)) := by
  have hl1 := congrArg List.length hC
  have hl2 := congrArg List.length ha
  simp at hl1 hl2
  -- a component put back has the addresses of the one that stood there
  have back : ∀ (i : Nat) (d : va_W), (pl cs is ds)[i]? = some d → ∃ c, cs[i]? = some c ∧ adr d = adr c := by
    intro i d h
    rcases pl_at is cs ds i d h with ⟨j, h1, h2⟩ | ⟨h1, -⟩
    · obtain ⟨c, g1, g2⟩ := pl_map hC h1
      refine ⟨c, g2, ?_⟩
      have h3 : (ds.map adr)[j]? = some (adr d) := by rw [List.getElem?_map, h2]; rfl
      rw [ha, List.getElem?_map, g1] at h3
      exact (Option.some.inj h3).symm
    · exact ⟨d, h1, rfl⟩
  have cell : ∀ (c d : va_W) (k : Nat) (q : Nat × va_E), adr d = adr c → d[k]? = some q → ∃ e, c[k]? = some (q.1, e) := by
    intro c d k q he hq
    have h3 : (adr d)[k]? = some q.1 := by unfold adr; rw [List.getElem?_map, hq]; rfl
    rw [he] at h3
    unfold adr at h3
    rw [List.getElem?_map] at h3
    cases hc : c[k]? with
    | none => rw [hc] at h3; cases h3
    | some z => rw [hc] at h3; exact ⟨z.2, by rw [← Option.some.inj h3]⟩
  refine ⟨fun n q hn => ?_, fun n1 n2 x y hx hy e => ?_, fun n q hn => ?_⟩
  · obtain ⟨i, k, d, h1, h2, h3⟩ := fl_mem hn
    rcases pl_at is cs ds i d h1 with ⟨j, g1, g2⟩ | ⟨g1, g2⟩
    · exact hP1 _ q (fl_at j k g2 h2)
    · have hq := hP _ q (fl_at i k g1 h2)
      refine hq.kept (hk q.1 hq.lt ?_)
      intro hA
      rcases hA with ⟨m, e, hm⟩ | hA
      · obtain ⟨j, k2, c, f1, f2, -⟩ := fl_mem hm
        obtain ⟨i2, t1, t2⟩ := pl_map2 hC f1
        obtain ⟨e1, -⟩ := fl_apart hD g1 t2 h2 f2 rfl
        subst e1
        exact g2 j t1 (by have := (List.getElem?_eq_some_iff.mp f1).1; omega)
      · exact absurd hq.lt (by omega)
  · obtain ⟨i1, k1, d1, a1, a2, a3⟩ := fl_mem hx
    obtain ⟨i2, k2, d2, b1, b2, b3⟩ := fl_mem hy
    obtain ⟨c1, p1, p2⟩ := back i1 d1 a1
    obtain ⟨c2, r1, r2⟩ := back i2 d2 b1
    obtain ⟨e1, u1⟩ := cell c1 d1 k1 x p2 a2
    obtain ⟨e2, u2⟩ := cell c2 d2 k2 y r2 b2
    obtain ⟨z1, z2⟩ := fl_apart hD p1 r1 u1 u2 e
    subst z1
    rw [a3, b3, z2]
  · obtain ⟨i, k, d, h1, h2, -⟩ := fl_mem hn
    obtain ⟨c, p1, p2⟩ := back i d h1
    obtain ⟨e, u⟩ := cell c d k q p2 h2
    exact hD.2 _ (q.1, e) (fl_at i k p1 u)
end FLJ
section FLW
variable {p : Program} {l : Launch} {e : Env} {R : Room} {s : State} {m : MethodId} {args : Array Value} {below : List Frame} {meth : Method} {c : Code} {H : Heap} {locs : List Loc} {cells slots : Nat} {Q : State → Prop}
variable {cc : ByteArray} {pc : Nat} {ls : Array Slot} {rest : List Value} {D : va_G} {K : Nat → ClassId} {A : Nat → Prop}
theorem mPre_fl {cs ccs : List va_W} {av : List Value} (hK : va_K D vwCl (TY K) s) (hF : SF A s s.heap) (hA : ∀ q : Nat, s.heap.size ≤ q → A q) (hP : va_P D vwCl (fl cs) H) (hD : va_D A (fl cs)) (hS : va_S A s.heap H locs) (is : List Nat) (hC : is.map (fun i => cs[i]?) = ccs.map some) (hn : va_nd is = true) :
    ∀ U : State, U.heap = H → s.WarmedH U.vm → mPre D K av (fl ccs) H.size av.toArray U := by
  intro U hU hW
  exact ⟨rfl, by rw [hU], by rw [hU]; exact fl_sub hP is hC, va_K.moved hW.alike hK, fl_subD hD is hC hn, by rw [hU]; exact SF.narrow (SF.kept (SF.warm hW hF) hS) (fl_free hD hS hA is hC)⟩
theorem fi_i {av : List Value} {cs ccs ds : List va_W} {r : Int32} {st0 : List Value} (hr : va_Run p l e R s m args below meth c H locs cells slots 0 0 (F0 m pc ls st0) rest (va_Qi (fun r2 _ => r2 = r) (mEnd D K (fl ds)) (va_A (fl ccs) H.size) av.toArray) (va_A (fl ccs) H.size)) (hA : ∀ q : Nat, s.heap.size ≤ q → A q) (hP : va_P D vwCl (fl cs) H) (hD : va_D A (fl cs)) (hS : va_S A s.heap H locs) (is : List Nat) (hC : is.map (fun i => cs[i]?) = ccs.map some) (ha : ds.map adr = ccs.map adr)
    (kk : ∀ (H1 : Heap) (locs1 : List Loc), va_P D vwCl (fl (pl cs is ds)) H1 → va_D A (fl (pl cs is ds)) → va_S A s.heap H1 locs1 → W p l e R s m args below meth c H1 locs1 cells slots Q (F0 m (pc + 3) ls (.int r :: rest))) : W p l e R s m args below meth c H locs cells slots Q (F0 m pc ls st0) := by
  have hFr := fl_free hD hS hA is hC
  refine va_calli hr hS (fun q _ h => hFr q h) hFr (fun r2 u t H1 locs1 ht hvm hw hB hz1 hk1 hS1 => ?_)
  subst hw
  obtain ⟨h1, h2⟩ := fl_join hP hD is hC ha hk1 (by rw [← ht]; exact hB.1)
  exact kk H1 locs1 h1 h2 hS1
theorem fi_l {av : List Value} {cs ccs ds : List va_W} {r : Int64} {st0 : List Value} (hr : va_Run p l e R s m args below meth c H locs cells slots 0 0 (F0 m pc ls st0) rest (va_Ql (fun r2 _ => r2 = r) (mEnd D K (fl ds)) (va_A (fl ccs) H.size) av.toArray) (va_A (fl ccs) H.size)) (hA : ∀ q : Nat, s.heap.size ≤ q → A q) (hP : va_P D vwCl (fl cs) H) (hD : va_D A (fl cs)) (hS : va_S A s.heap H locs) (is : List Nat) (hC : is.map (fun i => cs[i]?) = ccs.map some) (ha : ds.map adr = ccs.map adr)
    (kk : ∀ (H1 : Heap) (locs1 : List Loc), va_P D vwCl (fl (pl cs is ds)) H1 → va_D A (fl (pl cs is ds)) → va_S A s.heap H1 locs1 → W p l e R s m args below meth c H1 locs1 cells slots Q (F0 m (pc + 3) ls (.long r :: rest))) : W p l e R s m args below meth c H locs cells slots Q (F0 m pc ls st0) := by
  have hFr := fl_free hD hS hA is hC
  refine va_calll hr hS (fun q _ h => hFr q h) hFr (fun r2 u t H1 locs1 ht hvm hw hB hz1 hk1 hS1 => ?_)
  subst hw
  obtain ⟨h1, h2⟩ := fl_join hP hD is hC ha hk1 (by rw [← ht]; exact hB.1)
  exact kk H1 locs1 h1 h2 hS1
theorem fi_v {av : List Value} {cs ccs ds : List va_W} {st0 : List Value} (hr : va_Run p l e R s m args below meth c H locs cells slots 0 0 (F0 m pc ls st0) rest (va_Qv (fun _ => True) (mEnd D K (fl ds)) (va_A (fl ccs) H.size) av.toArray) (va_A (fl ccs) H.size)) (hA : ∀ q : Nat, s.heap.size ≤ q → A q) (hP : va_P D vwCl (fl cs) H) (hD : va_D A (fl cs)) (hS : va_S A s.heap H locs) (is : List Nat) (hC : is.map (fun i => cs[i]?) = ccs.map some) (ha : ds.map adr = ccs.map adr)
    (kk : ∀ (H1 : Heap) (locs1 : List Loc), va_P D vwCl (fl (pl cs is ds)) H1 → va_D A (fl (pl cs is ds)) → va_S A s.heap H1 locs1 → W p l e R s m args below meth c H1 locs1 cells slots Q (F0 m (pc + 3) ls rest)) : W p l e R s m args below meth c H locs cells slots Q (F0 m pc ls st0) := by
  have hFr := fl_free hD hS hA is hC
  refine va_callv hr hS (fun q _ h => hFr q h) hFr (fun u t H1 locs1 ht hvm hw hB hz1 hk1 hS1 => ?_)
  obtain ⟨h1, h2⟩ := fl_join hP hD is hC ha hk1 (by rw [← ht]; exact hB.1)
  exact kk H1 locs1 h1 h2 hS1
end FLW
