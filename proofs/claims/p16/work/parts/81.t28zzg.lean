-- writing: the walks of all subsets are checked
theorem och_both {fu M : Nat} {t : S_Tab} {P : S_Prog} {u : Int32} {th sc rf wi ls le : Nat → Int32} {va : Nat → Int64} (hf : 12000 ≤ fu) (It_ : I_Tab t) (IP : I_Prog P) (T : TbR t u th sc rf wi ls le) (Iw : A_Mwidths wi) (Is : A_Mscales sc) (Ils : A_Mlists ls) (Ile : A_Mlengths le) (Irf : Rfb rf) (hc : CompOK fu th sc wi ls le u) (hSg : Sg (It (Tab_listed t) (zT t) (Prog_descriptors P) (Prog_bodyEnds P) 64) M 128 (128 + zT t 16) 0 (Prog_size P).toInt.toNat) {k : Nat} {a0 : Int32} {row : Nat → Int64} {W : S_Walk} {Fl : S_Fld} {L : S_Lps} {bi : Nat → Int32} {s : S_Mo} {rd : Nat → Int64} {li ne en be lf tu fo op ki co wd sca lk rp : Nat → Int32} {ba : Nat → Int64} {ea pa : Nat → Int32} {r : A19} {r3 : S_Walk × S_Fld × S_Lps} (A : MA s fo op wd ea pa) (hu : Mo_used s = u) (hz : Mo_fault s = 0) (h0 : a0.toInt = (k : Int)) (hk : k < 8) (hrow : ∀ j, j < 100 → row j = va (100 * k + j)) (er : Mod_walk fu th sc rf wi ls le va bi a0 1 s rd li ne en be lf tu fo op ki co wd sca lk rp ba ea pa = some r) (ho : Walk_overChecked fu 100 t P row W Fl L = some r3) : (FdE r3.2.1 r ∧ ((Walk_fault r3.1 = 0 ∧ Mo_fault r.1 = 0) ∨ (¬ Walk_fault r3.1 = 0 ∧ ¬ Mo_fault r.1 = 0))) ∧ (Walk_fault r3.1 = 0 → ∀ j : Nat, (j : Int) < (Fld_count r3.2.1).toInt → okA r3.2.1 row j) := by
  have k1 : (1 : Int32).toInt = 1 := by decide
  obtain ⟨I, a1', a2, a3, a4, a5⟩ := A
  subst hu
  have hS := WSt_start (fu := fu) (th := th) (sc := sc) (wi := wi) (ls := ls) (le := le) (a0 := a0) (a1 := 1) (s := s) (li := li) (ne := ne) (en := en) (be := be) (lf := lf) I a1' a2 a3 a4 a5 (by rw [hz]; decide) (by omega) (by omega) (Or.inl (by decide)) (Or.inl (by decide)) hc
  obtain ⟨W0, Fl0, L0, s1, eb, cb, ok, hKA, SY0⟩ := w_start (W := W) (Fl := Fl) (L := L) (P := P) hf It_ IP T Iw Is Ils Ile Irf hSg hS hz er
  unfold Walk_overChecked at ho
  rw [bd_s eb] at ho
  exact och_L (row := row) (k := k) ok k1 h0 hk hrow fu 0 fu 0 W0 Fl0 L0 s1 rd r3 SY0 (by decide) (by rw [cb]; decide) (by omega) (fun j hj => absurd hj (by omega)) ho
def okB (va : Nat → Int64) (r : A19) (k i : Nat) : Prop := okv (r.2.2.2.2.2.2.2.2.2.2.1 i) (va (100 * k + i)) ∧ okr 1 (r.2.2.2.2.2.2.2.2.2.2.1 i) (r.2.2.2.2.2.2.2.2.2.2.2.2.1 i) (r.2.2.2.2.2.2.2.2.2.2.2.2.2.2.2.2.1 i) (va (100 * k + i))
def Gd (fu : Nat) (u : Int32) (th sc rf wi ls le : Nat → Int32) (va : Nat → Int64) (k : Nat) : Prop := ∀ (a0 : Int32) (bi : Nat → Int32) (s : S_Mo) (rd : Nat → Int64) (li ne en be lf tu fo op ki co wd sca lk rp : Nat → Int32) (ba : Nat → Int64) (ea pa : Nat → Int32) (r : A19), MA s fo op wd ea pa → Mo_used s = u → Mo_fault s = 0 → a0.toInt = (k : Int) → Mod_walk fu th sc rf wi ls le va bi a0 1 s rd li ne en be lf tu fo op ki co wd sca lk rp ba ea pa = some r → Mo_fault r.1 = 0 ∧ ∀ i : Nat, (i : Int) < (Mo_fields r.1).toInt → okB va r k i
def Bd (fu : Nat) (u : Int32) (th sc rf wi ls le : Nat → Int32) (va : Nat → Int64) (k : Nat) : Prop := ∀ (a0 : Int32) (bi : Nat → Int32) (s : S_Mo) (rd : Nat → Int64) (li ne en be lf tu fo op ki co wd sca lk rp : Nat → Int32) (ba : Nat → Int64) (ea pa : Nat → Int32) (r : A19), MA s fo op wd ea pa → Mo_used s = u → Mo_fault s = 0 → a0.toInt = (k : Int) → Mod_walk fu th sc rf wi ls le va bi a0 1 s rd li ne en be lf tu fo op ki co wd sca lk rp ba ea pa = some r → ¬ Mo_fault r.1 = 0
theorem chk_one {fu M : Nat} {t : S_Tab} {P : S_Prog} {u : Int32} {th sc rf wi ls le : Nat → Int32} {va : Nat → Int64} (hf : 12000 ≤ fu) (It_ : I_Tab t) (IP : I_Prog P) (T : TbR t u th sc rf wi ls le) (Iw : A_Mwidths wi) (Is : A_Mscales sc) (Ils : A_Mlists ls) (Ile : A_Mlengths le) (Irf : Rfb rf) (hc : CompOK fu th sc wi ls le u) (hSg : Sg (It (Tab_listed t) (zT t) (Prog_descriptors P) (Prog_bodyEnds P) 64) M 128 (128 + zT t 16) 0 (Prog_size P).toInt.toNat) {k : Nat} {VAL : Nat → Nat → Int64} {W : S_Walk} {Fl : S_Fld} {L : S_Lps} {r3 : S_Walk × S_Fld × S_Lps} (hk : k < 8) (V : RwR VAL va) (ho : Walk_overChecked fu 100 t P (VAL k) W Fl L = some r3) : (Walk_fault r3.1 = 0 → Gd fu u th sc rf wi ls le va k) ∧ (¬ Walk_fault r3.1 = 0 → Bd fu u th sc rf wi ls le va k) := by
  refine ⟨fun hz => ?_, fun hz => ?_⟩
  · intro a0 bi s rd li ne en be lf tu fo op ki co wd sca lk rp ba ea pa r A hu hs h0 er
    obtain ⟨⟨g1, g2⟩, g3⟩ := och_both (row := VAL k) hf It_ IP T Iw Is Ils Ile Irf hc hSg A hu hs h0 hk (fun j hj => V k j hk hj) er ho
    have f0 : Mo_fault r.1 = 0 := by
      rcases g2 with y | y
      · exact y.2
      · exact absurd hz y.1
    refine ⟨f0, fun i hi => ?_⟩
    obtain ⟨f1, f2, f3, f4⟩ := g1
    have o := g3 hz i (by rw [f1]; exact hi)
    obtain ⟨y1, y2, y3, y4, y5, y6, y7, _⟩ := f4 i hi
    unfold okA at o
    rw [y1, y3, y5, V k i hk (by omega)] at o
    exact o
  · intro a0 bi s rd li ne en be lf tu fo op ki co wd sca lk rp ba ea pa r A hu hs h0 er
    obtain ⟨⟨g1, g2⟩, g3⟩ := och_both (row := VAL k) hf It_ IP T Iw Is Ils Ile Irf hc hSg A hu hs h0 hk (fun j hj => V k j hk hj) er ho
    rcases g2 with y | y
    · exact absurd y.1 hz
    · exact y.2
set_option maxHeartbeats 8000000 in
theorem chk_L {fu M : Nat} {t : S_Tab} {P : S_Prog} {u : Int32} {th sc rf wi ls le : Nat → Int32} {va : Nat → Int64} (hf : 12000 ≤ fu) (It_ : I_Tab t) (IP : I_Prog P) (T : TbR t u th sc rf wi ls le) (Iw : A_Mwidths wi) (Is : A_Mscales sc) (Ils : A_Mlists ls) (Ile : A_Mlengths le) (Irf : Rfb rf) (hc : CompOK fu th sc wi ls le u) (hSg : Sg (It (Tab_listed t) (zT t) (Prog_descriptors P) (Prog_bodyEnds P) 64) M 128 (128 + zT t 16) 0 (Prog_size P).toInt.toNat) {n : Nat} {x1 : Int32} {VAL : Nat → Nat → Int64} {X : S_X} {q : Int32 × S_X × S_Walk × S_Fld × S_Lps} (hn : x1.toInt = (n : Int)) (h8 : n ≤ 8) (V : RwR VAL va) : ∀ (m k : Nat) (x : Int32) (W : S_Walk) (Fl : S_Fld) (L : S_Lps), x.toInt = (k : Int) → k ≤ n → X_checkValues_L2 fu VAL t P x1 X (fun y2 zWalk zFld zLps => X_checkValues_j30 fu VAL t P y2 X zWalk zFld zLps) m x W Fl L = some q → (q.1 = 1 ∧ q.2.1 = X ∧ ∀ j, k ≤ j → j < n → Gd fu u th sc rf wi ls le va j) ∨ (q.1 = 0 ∧ ∃ j, k ≤ j ∧ j < n ∧ Bd fu u th sc rf wi ls le va j ∧ ∀ i, k ≤ i → i < j → Gd fu u th sc rf wi ls le va i)
  | 0, k, x, W, Fl, L, hx, hk, h => by
    rw [X_checkValues_L2] at h
    cases h
  | m + 1, k, x, W, Fl, L, hx, hk, h => by
    have k1 : (1 : Int32).toInt = 1 := by decide
    rw [X_checkValues_L2] at h
    by_cases ck : k = n
    · have c1 : x1 ≤ x := by rw [i_le]; omega
      rw [if_pos c1] at h
      cases h
      exact Or.inl ⟨rfl, rfl, fun j h1 h2 => absurd h2 (by omega)⟩
    · have c1 : ¬ x1 ≤ x := by rw [i_le]; omega
      have nx : x.toNatClampNeg = k := by
        have := i_nat (a := x) (by omega)
        omega
      rw [if_neg c1, nx] at h
      have h := oe_gd h
      obtain ⟨r3, ho, h⟩ := oi_bd h
      obtain ⟨g1, g2⟩ := chk_one hf It_ IP T Iw Is Ils Ile Irf hc hSg (by omega) V ho
      by_cases cz : Walk_fault r3.1 = 0
      · rw [if_pos cz] at h
        have e1 : (x + 1).toInt = ((k + 1 : Nat) : Int) := by
          rw [i_add (a := x) (b := 1) (by omega) (by omega), hx, k1]
          rfl
        have ih := chk_L hf It_ IP T Iw Is Ils Ile Irf hc hSg hn h8 V m (k + 1) (x + 1) r3.1 r3.2.1 r3.2.2 e1 (by clear e1; omega) h
        rcases ih with ⟨i1, i2, i3⟩ | ⟨i1, j, i2, i3, i4, i5⟩
        · refine Or.inl ⟨i1, i2, fun j h1 h2 => ?_⟩
          by_cases cj : j = k
          · rw [cj]
            exact g1 cz
          · exact i3 j (by clear e1; omega) h2
        · refine Or.inr ⟨i1, j, by clear e1; omega, i3, i4, fun i h1 h2 => ?_⟩
          by_cases ci : i = k
          · rw [ci]
            exact g1 cz
          · exact i5 i (by clear e1; omega) h2
      · rw [if_neg cz] at h
        unfold X_checkValues_j30 at h
        obtain ⟨q5, _, h⟩ := oi_bd h
        obtain ⟨q6, _, h⟩ := oi_bd h
        cases h
        exact Or.inr ⟨rfl, k, Nat.le_refl _, by omega, g2 cz, fun i h1 h2 => absurd h2 (by omega)⟩
