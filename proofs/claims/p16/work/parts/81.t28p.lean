-- one descriptor, and all
def zT (t : S_Tab) (l : Nat) : Nat := (Tab_sizes t l).toInt.toNat
theorem zT_int {t : S_Tab} (I : I_Tab t) (l : Nat) : ((zT t l : Nat) : Int) = (Tab_sizes t l).toInt ∧ zT t l ≤ 24 := by
  have h := I.2.1 l
  unfold zT
  omega
theorem at_len {A d : Int32} {q : Nat} (hA : A.toInt = (q : Int)) (hq : q ≤ 152) (h1 : 216 ≤ d.toInt) (h2 : d.toInt ≤ 343) : (A + 1).toInt = ((q + 1 : Nat) : Int) ∧ (A + 1 + (d - 200) / 16).toInt = ((q + 1 + ((d.toInt - 200) / 16).toNat : Nat) : Int) ∧ (A + 2).toInt = ((q + 2 : Nat) : Int) ∧ (A + 2 + (d - 200) / 16).toInt = ((q + 2 + ((d.toInt - 200) / 16).toNat : Nat) : Int) := by
  have lx := (len_x h1 h2).1
  have k1 : (1 : Int32).toInt = 1 := by decide
  have k2 : (2 : Int32).toInt = 2 := by decide
  obtain ⟨x, hx⟩ : ∃ x, x = (d - 200) / 16 := ⟨_, rfl⟩
  rw [← hx] at lx ⊢
  clear hx
  have b : 0 ≤ (d.toInt - 200) / 16 ∧ (d.toInt - 200) / 16 ≤ 8 := by clear lx; omega
  obtain ⟨y, hy⟩ : ∃ y, y = (d.toInt - 200) / 16 := ⟨_, rfl⟩
  rw [← hy] at lx b ⊢
  clear hy
  have e1 : (A + 1).toInt = ((q + 1 : Nat) : Int) := by
    rw [i_add (a := A) (b := 1) (by omega) (by omega), hA, k1]
    omega
  have e2 : (A + 2).toInt = ((q + 2 : Nat) : Int) := by
    clear e1
    rw [i_add (a := A) (b := 2) (by omega) (by omega), hA, k2]
    omega
  refine ⟨e1, ?_, e2, ?_⟩
  · clear e2
    rw [i_add (a := A + 1) (b := x) (by rw [e1, lx]; clear e1; omega) (by rw [e1, lx]; clear e1; omega), e1, lx]
    clear e1
    omega
  · clear e1
    rw [i_add (a := A + 2) (b := x) (by rw [e2, lx]; clear e2; omega) (by rw [e2, lx]; clear e2; omega), e2, lx]
    clear e2
    omega
theorem cp_next {fu : Nat} {t : S_Tab} {P P' : S_Prog} {st sp qf hp a e : Nat → Nat} {o z : Nat} (hf : 12000 ≤ fu) (I : I_Tab t) (C : CP (Tab_listed t) (zT t) P st sp qf hp a e o z) (ha : a o < e o) (h : Prog_lookAtNext fu t P = some P') (h0 : Prog_fault P' = 0) (ho : o < 64) (hop : (Prog_open P').toInt ≤ 64) : ∃ (st' sp' qf' hp' a' e' : Nat → Nat) (o' z' : Nat), CP (Tab_listed t) (zT t) P' st' sp' qf' hp' a' e' o' z' ∧ z < z' ∧ o' ≤ o + 1 := by
  have k0 : (0 : Int32).toInt = 0 := by decide
  have k1 : (1 : Int32).toInt = 1 := by decide
  have C' := C
  obtain ⟨c1, c2, c3, c4, c5, c6, c7, c8, c9, c10⟩ := C
  obtain ⟨x1, x2, x3, x4, l, x5, x6, x7⟩ := c3 o (Nat.le_refl _)
  have hzl := (zT_int I l).2
  have nv : (Prog_open P - 1).toNatClampNeg = o := by
    have ev : (Prog_open P - 1).toInt = (o : Int) := by
      rw [i_sub (a := Prog_open P) (b := 1) (by omega) (by omega), c1, k1]
      omega
    have := i_nat (a := Prog_open P - 1) (by rw [ev]; clear ev; omega)
    rw [ev] at this
    clear ev
    omega
  obtain ⟨v, hv⟩ : ∃ v, v = Prog_open P - 1 := ⟨_, rfl⟩
  rw [← hv] at nv
  obtain ⟨A, hA⟩ : ∃ A, A = Prog_openAts P o := ⟨_, rfl⟩
  rw [← hA] at x1
  have nA : A.toNatClampNeg = a o := by
    have := i_nat (a := A) (by omega)
    omega
  unfold Prog_lookAtNext o_lt at h
  rw [← hv, nv, ← hA] at h
  have h := oe_gd (oe_gd (oe_gd h))
  rw [nA] at h
  clear hv
  obtain ⟨⟨k, P1⟩, e1, h⟩ := oi_bd h
  have h : (if k = 0 then some P1 else NX fu t (Tab_listed t (a o)) A v P1) = some P' := h
  by_cases ck : k = 0
  · rw [ck] at e1
    have hf' := takeUp_inv0 e1
    rw [if_pos ck] at h
    cases h
    exact absurd h0 hf'
  · rw [if_neg ck] at h
    obtain ⟨t1, t2, t3, t4, t5, t6, t7, t8, t9⟩ := takeUp_inv e1 ck
    have t1 : Prog_descriptors P1 = upd (Prog_descriptors P) (Prog_size P).toNatClampNeg (Tab_listed t (a o)) := t1
    have t2 : Prog_bodyEnds P1 = Prog_bodyEnds P := t2
    have t3 : Prog_size P1 = Prog_size P + 1 := t3
    have t4 : Prog_open P1 = Prog_open P := t4
    have t5 : Prog_openAts P1 = upd (Prog_openAts P) o (A + 1) := t5
    have t6 : Prog_openEnds P1 = Prog_openEnds P := t6
    have t7 : Prog_openRepeats P1 = Prog_openRepeats P := t7
    have t8 : (Prog_size P).toInt < 1000 := t8
    clear t9
    have nz : (Prog_size P).toNatClampNeg = z := by
      have := i_nat (a := Prog_size P) (by omega)
      omega
    rw [nz] at t1
    have s1 : (Prog_size P1).toInt = ((z + 1 : Nat) : Int) := by
      rw [t3, i_add (a := Prog_size P) (b := 1) (by omega) (by omega), c2, k1]
      omega
    have sm : (Prog_size P1 - 1).toInt = (z : Int) := by
      rw [i_sub (a := Prog_size P1) (b := 1) (by omega) (by omega), s1, k1]
      omega
    have nz1 : (Prog_size P1).toNatClampNeg = z + 1 := by
      clear sm
      have := i_nat (a := Prog_size P1) (by omega)
      omega
    have d1 : ∀ j, j < z → Prog_descriptors P1 j = Prog_descriptors P j := fun j hj => by
      have nj : j ≠ z := by clear sm; omega
      rw [t1, upd_ne nj]
    have d2 : Prog_descriptors P1 z = Tab_listed t (a o) := by rw [t1, upd_at]
    obtain ⟨z_, hz_⟩ : ∃ z_ : Int32, z_ = Prog_size P1 - 1 := ⟨_, rfl⟩
    rw [← hz_] at sm
    rcases nx_inv hf I h h0 with ⟨hd, y1, y2, y3, y4, y5, y6, y7⟩ | ⟨hd, a0, a1, w1, w2, w3, y⟩ | ⟨hd, y⟩
    · have A1 : (A + 1).toInt = ((a o + 1 : Nat) : Int) := by
        rw [i_add (a := A) (b := 1) (by omega) (by omega), x1, k1]
        omega
      refine ⟨st, sp, qf, hp, updN a o (a o + 1), e, o, z + 1, CP_simple C' ha hd (fun j hj => by rw [y1]; exact d1 j hj) (by rw [y1]; exact d2) (y2.trans t2) (by rw [y3]; exact s1) (y4.trans t4) ?_ (y6.trans t6) (y7.trans t7), Nat.lt_succ_self _, Nat.le_succ _⟩
      intro f hf'
      rw [y5, t5]
      by_cases ef : f = o
      · rw [ef, upd_at, updN_at]
        exact A1
      · rw [upd_ne ef, updN_ne ef]
        exact (c3 f hf').1
    · have A1 : (A + 1).toInt = ((a o + 1 : Nat) : Int) := by
        rw [i_add (a := A) (b := 1) (by omega) (by omega), x1, k1]
        omega
      have oa : ∀ f, f ≤ o → (Prog_openAts P1 f).toInt = ((updN a o (a o + 1) f : Nat) : Int) := by
        intro f hf'
        rw [t5]
        by_cases ef : f = o
        · rw [ef, upd_at, updN_at]
          exact A1
        · rw [upd_ne ef, updN_ne ef]
          exact (c3 f hf').1
      clear A1
      obtain ⟨y1, y2, y3, y4, y5, y6, y7⟩ := y
      have no : (Prog_open P1).toNatClampNeg = o + 1 := by
        have := i_nat (a := Prog_open P) (by omega)
        rw [t4]
        omega
      rw [no] at y5 y6 y7
      obtain ⟨L, hL⟩ : ∃ L, L = ((Tab_listed t (a o)).toInt - 100).toNat := ⟨_, rfl⟩
      rw [← hL] at w2 w3
      have hL16 : L < 16 := by omega
      have eL : (L : Int) = (Tab_listed t (a o)).toInt - 100 := by omega
      have zL := zT_int I L
      have zp : 0 < zT t L := by
        have : (Tab_sizes t L).toInt ≠ 0 := fun h => w3 (i_eq.mpr (by rw [h, k0]))
        omega
      have hO : (Prog_open P').toInt = (o : Int) + 2 := by
        rw [y4, t4, i_add (a := Prog_open P) (b := 1) (by omega) (by omega), c1, k1]
        omega
      refine ⟨_, _, _, _, _, _, o + 1, z + 1, CP_push (ao := a o + 1) (s1 := 8 * L) (e1 := 8 * L + zT t L) (z1 := z + 1) C' (by omega) (by omega) (by omega) (by omega) (by omega) ⟨L, by omega, Nat.le_refl _, Nat.le_refl _⟩ (fun j hj => by rw [y1]; exact d1 j hj) (by rw [y1]; exact d2) (y2.trans t2) (by rw [y3]; exact s1) hO ?_ ?_ ?_ (Or.inl ⟨hd, rfl, ?_, ?_, ?_, rfl, ?_⟩), by omega, by omega⟩
      · intro f hf'
        rw [y5]
        by_cases ef : f = o + 1
        · rw [ef, upd_at, updN_at, w1]
          omega
        · rw [upd_ne ef, updN_ne ef]
          exact oa f (by omega)
      · intro f hf'
        rw [y6]
        by_cases ef : f = o + 1
        · rw [ef, upd_at, updN_at, w2]
          omega
        · rw [upd_ne ef, updN_ne ef, t6]
          exact (c3 f (by omega)).2.1
      · intro f hf'
        have nf : f ≠ o + 1 := by omega
        rw [y7, upd_ne nf, t7]
      · rw [← hL]
        exact zp
      · rw [← hL]
      · rw [← hL]
      · rw [y7, upd_at]
        decide
    · have al := at_len (A := A) (d := Tab_listed t (a o)) x1 (by omega) hd.1 hd.2
      have nA1 : (A + 1).toNatClampNeg = a o + 1 := by
        have := i_nat (a := A + 1) (by rw [al.1]; clear al; omega)
        rw [al.1] at this
        clear al
        omega
      obtain ⟨B1, hB1⟩ : ∃ B1, B1 = A + 1 := ⟨_, rfl⟩
      obtain ⟨B2, hB2⟩ : ∃ B2, B2 = A + 2 := ⟨_, rfl⟩
      obtain ⟨B3, hB3⟩ : ∃ B3, B3 = A + 1 + (Tab_listed t (a o) - 200) / 16 := ⟨_, rfl⟩
      obtain ⟨B4, hB4⟩ : ∃ B4, B4 = A + 2 + (Tab_listed t (a o) - 200) / 16 := ⟨_, rfl⟩
      rw [← hB3, ← hB4, ← hB1, ← hB2] at al
      rw [← hB1] at nA1
      rcases y with ⟨g1, g2, y⟩ | ⟨g1, g2, g3, P2, ⟨v1, v2, v3, v4, v5, v6, v7, v8, v9⟩, y⟩
      · rw [← hB3] at g2
        rw [← hB3, ← hB1, ← hz_] at y
        clear hB1 hB2 hB3 hB4 hz_
        obtain ⟨y1, y2, y3, y4, y5, y6, y7⟩ := y
        have no : (Prog_open P1).toNatClampNeg = o + 1 := by
          have := i_nat (a := Prog_open P) (by omega)
          rw [t4]
          omega
        rw [no] at y5 y6 y7
        rw [nv] at y5
        have b1 : a o + 1 + (((Tab_listed t (a o)).toInt - 200) / 16).toNat ≤ e o := by
          rw [nv, t6, i_lt, al.2.1, x2] at g2
          omega
        have hO : (Prog_open P').toInt = (o : Int) + 2 := by
          rw [y4, t4, i_add (a := Prog_open P) (b := 1) (by omega) (by omega), c1, k1]
          omega
        refine ⟨_, _, _, _, _, _, o + 1, z + 1, CP_push (ao := a o + 1 + (((Tab_listed t (a o)).toInt - 200) / 16).toNat) (s1 := a o + 1) (e1 := a o + 1 + (((Tab_listed t (a o)).toInt - 200) / 16).toNat) (z1 := z + 1) C' (by omega) (by omega) (by omega) b1 (by omega) ⟨l, x5, by omega, by omega⟩ ?_ ?_ ?_ ?_ hO ?_ ?_ ?_ (Or.inr (Or.inl ⟨hd, g1, rfl, rfl, rfl, rfl, ?_⟩)), by omega, by omega⟩
        · intro j hj
          rw [y1]
          exact d1 j hj
        · rw [y1]
          exact d2
        · exact y2.trans t2
        · rw [y3]
          exact s1
        · intro f hf'
          rw [y5]
          by_cases ef : f = o + 1
          · rw [ef, upd_at, updN_at]
            exact al.1
          · rw [upd_ne ef, updN_ne ef]
            by_cases eo : f = o
            · rw [eo, upd_at, updN_at]
              exact al.2.1
            · rw [upd_ne eo, updN_ne eo, t5, upd_ne eo]
              exact (c3 f (by omega)).1
        · intro f hf'
          rw [y6]
          by_cases ef : f = o + 1
          · rw [ef, upd_at, updN_at]
            exact al.2.1
          · rw [upd_ne ef, updN_ne ef, t6]
            exact (c3 f (by omega)).2.1
        · intro f hf'
          have nf : f ≠ o + 1 := by omega
          rw [y7, upd_ne nf, t7]
        · rw [y7, upd_at]
          exact sm
      · rw [← hB4] at g2
        rw [← hB4, ← hB2, ← hz_] at y
        rw [← hB1, nA1] at g3 v1
        rw [nz1] at v1
        clear hB1 hB2 hB3 hB4 hz_
        obtain ⟨y1, y2, y3, y4, y5, y6, y7⟩ := y
        have no : (Prog_open P2).toNatClampNeg = o + 1 := by
          have := i_nat (a := Prog_open P) (by omega)
          rw [v4, t4]
          omega
        rw [no] at y5 y6 y7
        rw [nv] at y5
        have b1 : a o + 2 + (((Tab_listed t (a o)).toInt - 200) / 16).toNat ≤ e o := by
          rw [nv, t6, i_lt, al.2.2.2, x2] at g2
          omega
        have hO : (Prog_open P').toInt = (o : Int) + 2 := by
          rw [y4, v4, t4, i_add (a := Prog_open P) (b := 1) (by omega) (by omega), c1, k1]
          omega
        refine ⟨_, _, _, _, _, _, o + 1, z + 2, CP_push (ao := a o + 2 + (((Tab_listed t (a o)).toInt - 200) / 16).toNat) (s1 := a o + 2) (e1 := a o + 2 + (((Tab_listed t (a o)).toInt - 200) / 16).toNat) (z1 := z + 2) C' (by omega) (by omega) (by omega) b1 (by omega) ⟨l, x5, by omega, by omega⟩ ?_ ?_ ?_ ?_ hO ?_ ?_ ?_ (Or.inr (Or.inr ⟨hd, g1, rfl, ?_, ?_, rfl, rfl, rfl, ?_⟩)), by omega, by omega⟩
        · intro j hj
          have nj : j ≠ z + 1 := by omega
          rw [y1, v1, upd_ne nj]
          exact d1 j hj
        · have nj : z ≠ z + 1 := by omega
          rw [y1, v1, upd_ne nj]
          exact d2
        · exact y2.trans (v2.trans t2)
        · rw [y3, v3, i_add (a := Prog_size P1) (b := 1) (by rw [s1, k1]; omega) (by rw [s1, k1]; omega), s1, k1]
          omega
        · intro f hf'
          rw [y5]
          by_cases ef : f = o + 1
          · rw [ef, upd_at, updN_at]
            exact al.2.2.1
          · rw [upd_ne ef, updN_ne ef]
            by_cases eo : f = o
            · rw [eo, upd_at, updN_at]
              exact al.2.2.2
            · rw [upd_ne eo, updN_ne eo, v5, t5, upd_ne eo]
              exact (c3 f (by omega)).1
        · intro f hf'
          rw [y6]
          by_cases ef : f = o + 1
          · rw [ef, upd_at, updN_at]
            exact al.2.2.2
          · rw [upd_ne ef, updN_ne ef, v6, t6]
            exact (c3 f (by omega)).2.1
        · intro f hf'
          have nf : f ≠ o + 1 := by omega
          rw [y7, upd_ne nf, v7, t7]
        · exact ⟨g3.1, by omega⟩
        · rw [y1, v1, upd_at]
        · rw [y7, upd_at]
          exact sm
theorem cp_build {fu : Nat} {t : S_Tab} {P' : S_Prog} (hf : 12000 ≤ fu) (I : I_Tab t) (h0 : Prog_fault P' = 0) : ∀ (m n : Nat) (x : Int32) (P : S_Prog) (st sp qf hp a e : Nat → Nat) (o z : Nat), CP (Tab_listed t) (zT t) P st sp qf hp a e o z → I_Prog P → Prog_build_L53 fu t n x P = some P' → 2 * (1001 - (z : Int)) + ((o : Int) + 1) ≤ (m : Int) → 0 ≤ x.toInt → x.toInt + (m : Int) < 10000 → ∃ M : Nat, Sg (It (Tab_listed t) (zT t) (Prog_descriptors P') (Prog_bodyEnds P') 64) M 128 (128 + zT t 16) 0 (Prog_size P').toInt.toNat
  | m, 0, x, P, st, sp, qf, hp, a, e, o, z, _, _, h, _, _, _ => by
    rw [Prog_build_L53] at h
    cases h
  | m, n + 1, x, P, st, sp, qf, hp, a, e, o, z, C, IP, h, hm, hx0, hx1 => by
    have k0 : (0 : Int32).toInt = 0 := by decide
    have k1 : (1 : Int32).toInt = 1 := by decide
    have kt : (10000 : Int32).toInt = 10000 := by decide
    have km : ((-1) : Int32).toInt = -1 := by decide
    have C' := C
    obtain ⟨c1, c2, c3, ⟨M, c4⟩, c5, c6, c7, c8, c9, c10⟩ := C
    obtain ⟨x1, x2, x3, x4, l, x5, x6, x7⟩ := c3 o (Nat.le_refl _)
    have iz := I_Prog_size IP
    have ho : o < 64 := by
      have := I_Prog_open IP
      omega
    have nx : ¬ (10000 : Int32) ≤ x := by rw [i_le]; omega
    have no : ¬ Prog_open P ≤ 0 := by rw [i_le]; omega
    have ev : (Prog_open P - 1).toInt = (o : Int) := by
      rw [i_sub (a := Prog_open P) (b := 1) (by omega) (by omega), c1, k1]
      omega
    have nv : (Prog_open P - 1).toNatClampNeg = o := by
      have := i_nat (a := Prog_open P - 1) (by rw [ev]; clear ev; omega)
      rw [ev] at this
      clear ev
      omega
    have ex : (x + 1).toInt = x.toInt + 1 := by
      clear ev
      rw [i_add (a := x) (b := 1) (by omega) (by omega), k1]
    rw [Prog_build_L53, if_neg nx, if_neg no] at h
    have f0 : Prog_fault P = 0 := by
      by_cases c : Prog_fault P = 0
      · exact c
      · rw [if_neg c] at h
        cases h
        exact absurd h0 c
    rw [if_pos f0] at h
    have h := oe_gd (oe_gd h)
    rw [nv] at h
    have after : ∀ P1 : S_Prog, Prog_build_L53 fu t n (x + 1) P1 = some P' → Prog_fault P1 = 0 := by
      intro P1 g
      have n0 : 0 < n := by
        cases n with
        | zero =>
          rw [Prog_build_L53] at g
          cases g
        | succ n => exact Nat.succ_pos n
      by_cases c : Prog_fault P1 = 0
      · exact c
      · rw [build_f c n0] at g
        cases g
        exact absurd h0 c
    by_cases ce : Prog_openEnds P o ≤ Prog_openAts P o
    · rw [if_pos ce] at h
      obtain ⟨P1, f1, h⟩ := oi_bd h
      have h : Prog_build_L53 fu t n (x + 1) P1 = some P' := h
      have g0 := after P1 h
      have ae : a o = e o := by
        rw [i_le, x1, x2] at ce
        clear ev ex
        omega
      obtain ⟨Q, eQ, IQ⟩ := t_Prog_closeList (fu := fu) (sProg := P) hf IP (by clear ev ex; omega)
      have eQ' : Q = P1 := Option.some.inj (eQ.symm.trans f1)
      rw [eQ'] at IQ
      obtain ⟨y1, y2, y3, y4, y5, y6, y7⟩ := close_inv f1 g0
      rw [nv] at y7
      have hO : (Prog_open P1).toInt = (o : Int) := by rw [y3]; exact ev
      cases o with
      | zero =>
        have z1 : Prog_open P1 ≤ 0 := by
          rw [i_le, hO, k0]
          exact Int.le_refl _
        have nx1 : ¬ (10000 : Int32) ≤ x + 1 := by
          rw [i_le, ex, kt]
          clear ev ex
          omega
        cases n with
        | zero =>
          rw [Prog_build_L53] at h
          cases h
        | succ n =>
          rw [Prog_build_L53, if_neg nx1, if_pos z1] at h
          have e1 : P1 = P' := Option.some.inj h
          have hb : Prog_bodyEnds P1 = Prog_bodyEnds P := by
            rcases y7 with ⟨_, b⟩ | ⟨b, _⟩
            · exact b
            · exact absurd (i_eq.mpr (by rw [c9, km])) b
          have ez : (Prog_size P).toInt.toNat = z := by
            clear ev ex hO
            omega
          rw [← e1, y1, hb, y2, ez]
          rw [c6, ae, c7, c8] at c4
          exact ⟨M, c4⟩
      | succ o =>
        have hB : ((Prog_openRepeats P (o + 1)).toInt = -1 ∧ Prog_bodyEnds P1 = Prog_bodyEnds P) ∨ (¬ (Prog_openRepeats P (o + 1)).toInt = -1 ∧ Prog_bodyEnds P1 = upd (Prog_bodyEnds P) (Prog_openRepeats P (o + 1)).toNatClampNeg (Prog_size P)) := by
          rcases y7 with ⟨b1, b2⟩ | ⟨b1, b2⟩
          · exact Or.inl ⟨by rw [b1]; exact km, b2⟩
          · exact Or.inr ⟨fun c => b1 (i_eq.mpr (by rw [c, km])), b2⟩
        have hO' : (Prog_open P1).toInt = (o : Int) + 1 := by rw [hO]; rfl
        exact cp_build hf I h0 (m - 1) n (x + 1) P1 st sp qf hp a e o z (CP_close C' ae y1 y2 hO' y4 y5 y6 hB) IQ h (by clear ev ex; omega) (by rw [ex]; clear ev ex; omega) (by rw [ex]; clear ev ex; omega)
    · rw [if_neg ce] at h
      obtain ⟨P1, f1, h⟩ := oi_bd h
      have h : Prog_build_L53 fu t n (x + 1) P1 = some P' := h
      have g0 := after P1 h
      have ae : a o < e o := by
        rw [i_le, x1, x2] at ce
        clear ev ex
        omega
      obtain ⟨Q, eQ, IQ⟩ := t_Prog_lookAtNext (fu := fu) (sTab := t) (sProg := P) hf I IP (by clear ev ex; omega) (by rw [nv, x1, x2]; clear ev ex; omega)
      have eQ' : Q = P1 := Option.some.inj (eQ.symm.trans f1)
      rw [eQ'] at IQ
      obtain ⟨st', sp', qf', hp', a', e', o', z', C1, hz, ho'⟩ := cp_next hf I C' ae f1 g0 ho (I_Prog_open IQ).2
      have iz1 := I_Prog_size IQ
      have cz1 := C1.2.1
      exact cp_build hf I h0 (m - 1) n (x + 1) P1 st' sp' qf' hp' a' e' o' z' C1 IQ h (by clear ev ex; omega) (by rw [ex]; clear ev ex; omega) (by rw [ex]; clear ev ex; omega)
-- from the beginning
theorem cp_all {fu : Nat} {t : S_Tab} {P P' : S_Prog} (hf : 12000 ≤ fu) (I : I_Tab t) (IP : I_Prog P) (h : Prog_build fu t P = some P') (h0 : Prog_fault P' = 0) : ∃ M : Nat, Sg (It (Tab_listed t) (zT t) (Prog_descriptors P') (Prog_bodyEnds P') 64) M 128 (128 + zT t 16) 0 (Prog_size P').toInt.toNat := by
  have k16 : (16 : Int32).toInt = 16 := by decide
  have n16 : (16 : Int32).toNatClampNeg = 16 := by decide
  have km : ((-1) : Int32).toInt = -1 := by decide
  unfold Prog_build o_lt at h
  obtain ⟨q6, e6, h⟩ := oi_bd h
  obtain ⟨q7, e7, h7, h⟩ := oe_bd (t_Tab_endOf (sTab := t) (a0 := 16) I (by decide) (by decide)) h
  obtain ⟨P8, e8, h⟩ := oi_bd h
  rw [n16, k16] at h7
  obtain ⟨P7, hP7⟩ : ∃ P7, P7 = Prog_set_settings (Prog_set_templatePlace (Prog_set_open (Prog_set_place (Prog_set_fault (Prog_set_size P 0) 0) (-1)) 0) 0) q6 := ⟨_, rfl⟩
  have e8 : Prog_openList 128 q7 (-1) (-1) P7 = some P8 := by
    rw [hP7]
    exact e8
  have IP7 : I_Prog P7 := by
    rw [hP7]
    exact I_Prog_set_settings (I_Prog_set_templatePlace (I_Prog_set_open (I_Prog_set_place (I_Prog_set_fault (I_Prog_set_size IP (by decide)))) (by decide)))
  have o7 : Prog_open P7 = 0 := by rw [hP7]
  have s7 : Prog_size P7 = 0 := by rw [hP7]
  have f7 : Prog_fault P7 = 0 := by rw [hP7]
  obtain ⟨Q, eQ, IQ⟩ := t_Prog_openList (a0 := 128) (a1 := q7) (a2 := -1) (a3 := -1) (sProg := P7) IP7 (by decide) (by decide) (by omega) (by omega) (by decide) (by decide)
  have eQ' : Q = P8 := Option.some.inj (eQ.symm.trans e8)
  rw [eQ'] at IQ
  have g0 : Prog_fault P8 = 0 := by
    by_cases c : Prog_fault P8 = 0
    · exact c
    · rw [build_f c (by omega)] at h
      cases h
      exact absurd h0 c
  obtain ⟨y1, y2, y3, y4, y5, y6, y7⟩ := openList_inv e8 g0
  have n7 : (Prog_open P7).toNatClampNeg = 0 := by rw [o7]; decide
  rw [n7] at y5 y6 y7
  rw [s7] at y3
  rw [o7] at y4
  have z16 := zT_int I 16
  have C : CP (Tab_listed t) (zT t) P8 (fun _ => 128) (fun _ => 0) (fun _ => 0) (fun _ => 0) (fun _ => 128) (fun _ => 128 + zT t 16) 0 0 := by
    refine ⟨by rw [y4]; decide, by rw [y3]; decide, fun f hf' => ?_, ⟨0, rfl, rfl⟩, fun f hf' => absurd hf' (by omega), rfl, rfl, rfl, by rw [y7, upd_at]; exact km, by decide⟩
    have ef : f = 0 := by omega
    rw [ef, y5, y6, upd_at, upd_at]
    show (128 : Int32).toInt = ((128 : Nat) : Int) ∧ q7.toInt = ((128 + zT t 16 : Nat) : Int) ∧ 128 ≤ 128 + zT t 16 ∧ 0 ≤ 0 ∧ ∃ l, l ≤ 16 ∧ 8 * l ≤ 128 ∧ 128 + zT t 16 ≤ 8 * l + zT t l
    refine ⟨by decide, ?_, by omega, Nat.le_refl _, 16, by omega, by omega, by omega⟩
    rw [h7.2.1]
    omega
  exact cp_build hf I h0 2003 fu 0 P8 _ _ _ _ _ _ 0 0 C IQ h (by decide) (by decide) (by decide)
