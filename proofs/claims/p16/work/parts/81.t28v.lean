-- the walk: the next descriptor, and lists that begin
theorem Sg_lev {F : Nat → Int32} {Z : Nat → Nat} {D B : Nat → Int32} {n m p q a b : Nat} (H : Sg (It F Z D B n) m p q a b) (h : p < q) : 1 ≤ n := by
  cases n with
  | zero =>
    cases m with
    | zero =>
      have := H.1
      omega
    | succ m =>
      obtain ⟨_, _, h1, _⟩ := H
      exact h1.elim
  | succ n => omega
theorem St_head {F : Nat → Int32} {Z : Nat → Nat} {D B : Nat → Int32} {sz : Nat} {li ne en be lf tu : Nat → Int32} {L : S_Lps} {o a : Nat} (H : St F Z D B sz li ne en be lf tu L o a) (h : fp li ne o < fp li en o) : ∃ p' b, It F Z D B (64 - o) (fp li ne o) p' a b ∧ p' ≤ fp li en o ∧ ∀ ne' : Nat → Int32, (∀ f, f < o → ne' f = ne f) → fp li ne' o = p' → St F Z D B sz li ne' en be lf tu L o b := by
  cases o with
  | zero =>
    obtain ⟨⟨m, H1⟩, H2, H3⟩ := H
    cases m with
    | zero =>
      have := H1.1
      omega
    | succ m =>
      obtain ⟨p', b, h1, h2⟩ := H1
      refine ⟨p', b, h1, ?_, fun ne' _ e => ⟨⟨m, by rw [e]; exact h2⟩, H2, H3⟩⟩
      rcases Sg_adv (It_adv _) m _ _ _ _ h2 with ⟨_, x, _⟩ | ⟨x, _⟩ <;> omega
  | succ o =>
    obtain ⟨H0, E, ⟨m, H1⟩, H2, H3⟩ := H
    have e64 : 64 - (o + 1) = 63 - o := by omega
    cases m with
    | zero =>
      have := H1.1
      omega
    | succ m =>
      obtain ⟨p', b, h1, h2⟩ := H1
      refine ⟨p', b, by rw [e64]; exact h1, ?_, fun ne' hne e => ⟨H0, E, ⟨m, by rw [e]; exact h2⟩, H2, ?_⟩⟩
      · rcases Sg_adv (It_adv _) m _ _ _ _ h2 with ⟨_, x, _⟩ | ⟨x, _⟩ <;> omega
      · exact St_cong (li := li) (ne := ne) (en := en) (be := be) (lf := lf) (tu := tu) (L := L) o E (fun f hf => ⟨rfl, hne f (by omega), rfl, rfl, rfl, rfl⟩) (fun _ _ => ⟨rfl, rfl, rfl, rfl⟩) H3
-- a list begins
theorem St_push {F : Nat → Int32} {Z : Nat → Nat} {D B : Nat → Int32} {sz : Nat} {li ne en be lf tu : Nat → Int32} {L L' : S_Lps} {o a b m : Nat} {l fr to t w : Int32} (H : St F Z D B sz li ne en be lf tu L o b) (ho : o ≤ 63) (C : Sg (It F Z D B (63 - o)) m (8 * l.toNatClampNeg + fr.toNatClampNeg) (8 * l.toNatClampNeg + to.toNatClampNeg) a b) (hlt : 8 * l.toNatClampNeg + fr.toNatClampNeg < 8 * l.toNatClampNeg + to.toNatClampNeg) (hL : ∀ k, k < rn tu (o + 1) → LpE L L' k) (hw : (w < 0 ∧ t.toInt = 1) ∨ (w.toInt = 0 ∧ 1 ≤ t.toInt ∧ t.toInt ≤ 30 ∧ (Lps_starts L' (rn tu (o + 1))).toInt = (a : Int) ∧ (Lps_ends L' (rn tu (o + 1))).toInt = (b : Int) ∧ (Lps_done L' (rn tu (o + 1))).toInt = 0 ∧ (Lps_times L' (rn tu (o + 1))).toInt = t.toInt)) : St F Z D B sz (upd li (o + 1) l) (upd ne (o + 1) fr) (upd en (o + 1) to) (upd be (o + 1) fr) (upd lf (o + 1) t) (upd tu (o + 1) w) L' (o + 1) a := by
  have k0 : (0 : Int32).toInt = 0 := by decide
  have lev := Sg_lev C hlt
  have rc : rn (upd tu (o + 1) w) (o + 1) = rn tu (o + 1) := rn_cong (o + 1) (fun j hj => upd_ne (by omega))
  refine ⟨by omega, b, ⟨m, ?_⟩, ?_, ?_⟩
  · unfold fp
    rw [upd_at, upd_at, upd_at]
    exact C
  · rcases hw with ⟨w1, w2⟩ | ⟨w1, w2, w3, w4, w5, w6, w7⟩
    · exact Or.inl ⟨by rw [upd_at]; exact w1, by rw [upd_at]; exact w2⟩
    · refine Or.inr ⟨by rw [upd_at, i_lt, w1, k0]; omega, by rw [upd_at]; exact w2, by rw [upd_at, upd_at, w1]; omega, a, m, ?_, by rw [rc]; exact w4, by rw [rc]; exact w5, by rw [rc, upd_at, w1]; exact w6, by rw [rc, upd_at, upd_at, w1, w7]; omega⟩
      unfold fp
      rw [upd_at, upd_at, upd_at]
      exact C
  · refine St_cong (li := li) (ne := ne) (en := en) (be := be) (lf := lf) (tu := tu) (L := L) o b (fun f hf => ?_) hL H
    have nf : f ≠ o + 1 := by omega
    exact ⟨upd_ne nf, upd_ne nf, upd_ne nf, upd_ne nf, upd_ne nf, upd_ne nf⟩
-- a loop begins, in the class
theorem enter_x {L : S_Lps} {k : Nat} {a0 a1 a2 : Int32} (ho : (Lps_open L).toInt = (k : Int)) (hk : k < 64) : ∃ L', Lps_enter a0 a1 a2 L = some L' ∧ (Lps_open L').toInt = (k : Int) + 1 ∧ Lps_starts L' k = a0 ∧ Lps_ends L' k = a1 ∧ Lps_times L' k = a2 ∧ Lps_done L' k = 0 ∧ ∀ j, j < k → LpE L L' j := by
  have k64 : (64 : Int32).toInt = 64 := by decide
  have k1 : (1 : Int32).toInt = 1 := by decide
  have c : ¬ (64 : Int32) ≤ Lps_open L := by rw [i_le]; omega
  have g : o_in (Lps_open L) 64 = true := i_in.mpr (by omega)
  have n : (Lps_open L).toNatClampNeg = k := by
    have := i_nat (a := Lps_open L) (by omega)
    omega
  refine ⟨Lps_set_open (Lps_put_done (Lps_put_times (Lps_put_ends (Lps_put_starts L k a0) k a1) k a2) k 0) (Lps_open L + 1), ?_, ?_, upd_at _ _ _, upd_at _ _ _, upd_at _ _ _, upd_at _ _ _, fun j hj => ?_⟩
  · unfold Lps_enter o_lt
    rw [if_neg c, gd_t g, n]
    show o_gd (o_in (Lps_open L) 64) _ = _
    rw [gd_t g]
    show o_gd (o_in (Lps_open L) 64) _ = _
    rw [gd_t g]
    show o_gd (o_in (Lps_open L) 64) _ = _
    rw [gd_t g]
    show some (Lps_set_open (Lps_put_done (Lps_put_times (Lps_put_ends (Lps_put_starts L k a0) (Lps_open L).toNatClampNeg a1) (Lps_open L).toNatClampNeg a2) (Lps_open L).toNatClampNeg 0) (Lps_open L + 1)) = _
    rw [n]
  · show (Lps_open L + 1).toInt = _
    rw [i_add (a := Lps_open L) (b := 1) (by omega) (by omega), ho, k1]
  · have nj : j ≠ k := by omega
    exact ⟨upd_ne nj, upd_ne nj, upd_ne nj, upd_ne nj⟩
-- what agrees between the walks
def ElR (W : S_Walk) (s : S_Mo) (ea : Nat → Int32) : Prop := Walk_elementCount W = Mo_elements s ∧ 0 ≤ (Mo_elements s).toInt ∧ (Mo_elements s).toInt ≤ (Mo_fields s).toInt ∧ ∀ i : Nat, (i : Int) < (Mo_elements s).toInt → Walk_elements W i = ea i ∧ 0 ≤ (ea i).toInt ∧ (ea i).toInt < (Mo_fields s).toInt
def PtR (W : S_Walk) (s : S_Mo) (pa : Nat → Int32) : Prop := Walk_pointedCount W = Mo_pointed s ∧ 0 ≤ (Mo_pointed s).toInt ∧ (Mo_pointed s).toInt ≤ 16 ∧ Walk_nextPointed W = Mo_pointer s ∧ 0 ≤ (Mo_pointer s).toInt ∧ (Mo_pointer s).toInt ≤ (Mo_pointed s).toInt ∧ ∀ i : Nat, (i : Int) < (Mo_pointed s).toInt → Walk_pointed W i = pa i ∧ 0 ≤ (pa i).toInt ∧ (pa i).toInt < (Mo_fields s).toInt
def WB (t : S_Tab) (P : S_Prog) (W : S_Walk) (Fl : S_Fld) (L : S_Lps) (s : S_Mo) (li ne en be lf tu op ki co wd sca lk rp : Nat → Int32) (ba : Nat → Int64) (ea pa : Nat → Int32) (o a : Nat) : Prop := Walk_fault W = 0 ∧ Mo_fault s = 0 ∧ (Mo_open s).toInt = (o : Int) + 1 ∧ (Walk_at W).toInt = (a : Int) ∧ Walk_come W = Mo_looked s ∧ 0 ≤ (Mo_looked s).toInt ∧ (Mo_looked s).toInt ≤ 2000 ∧ (∀ k, k < 4 → om k (Walk_settings W k) (op k)) ∧ ElR W s ea ∧ PtR W s pa ∧ FdR Fl s ki co wd sca lk rp ba ∧ St (Tab_listed t) (zT t) (Prog_descriptors P) (Prog_bodyEnds P) (Prog_size P).toInt.toNat li ne en be lf tu L o a ∧ (Lps_open L).toInt = (rn tu (o + 1) : Int)
-- one more comes
theorem comes_x {s : S_Mo} (h0 : 0 ≤ (Mo_looked s).toInt) (h1 : (Mo_looked s).toInt < 2000) : Mod_comes s = some (1, Mo_set_looked s (Mo_looked s + 1)) := by
  have kt : (2000 : Int32).toInt = 2000 := by decide
  have k1 : (1 : Int32).toInt = 1 := by decide
  have e : (Mo_looked s + 1).toInt = (Mo_looked s).toInt + 1 := by
    rw [i_add (a := Mo_looked s) (b := 1) (by omega) (by omega), k1]
  have c : Mo_looked s + 1 ≤ 2000 := by rw [i_le, e, kt]; clear e; omega
  have c' : ¬ (2000 : Int32) < Mo_looked s + 1 := by rw [i_lt, e, kt]; clear e; omega
  unfold Mod_comes
  show (if Mo_looked s + 1 ≤ 2000 then Mod_comes_j30 (Mo_set_looked s (Mo_looked s + 1)) else _) = _
  rw [if_pos c]
  unfold Mod_comes_j30
  show (if (2000 : Int32) < Mo_looked s + 1 then _ else _) = _
  rw [if_neg c']
theorem wrong_l {a0 a1 : Int32} {s r : S_Mo} (h : Mod_wrongAt a0 a1 s = some r) : Mo_looked r = Mo_looked s := by
  have w : ∀ (b : Int32) (r' : S_Mo), Mod_wrong a0 b s = some r' → Mo_looked r' = Mo_looked s := by
    intro b r' g
    unfold Mod_wrong o_lt at g
    split at g
    · cases g
      rfl
    · cases g
      rfl
  unfold Mod_wrongAt at h
  split at h
  · rw [bd_some] at h
    exact w _ _ h
  · rw [bd_some] at h
    exact w _ _ h
theorem comes_f {s s' : S_Mo} {k : Int32} (h1 : (Mo_looked s).toInt = 2000) (h : Mod_comes s = some (k, s')) : k = 0 ∧ ¬ Mo_fault s' = 0 ∧ Mo_fields s' = Mo_fields s := by
  have kt : (2000 : Int32).toInt = 2000 := by decide
  have k1 : (1 : Int32).toInt = 1 := by decide
  have e : (Mo_looked s + 1).toInt = 2001 := by
    rw [i_add (a := Mo_looked s) (b := 1) (by omega) (by omega), h1, k1]
    rfl
  have c : ¬ Mo_looked s + 1 ≤ 2000 := by rw [i_le, e, kt]; decide
  unfold Mod_comes at h
  have h : (if Mo_looked s + 1 ≤ 2000 then Mod_comes_j30 (Mo_set_looked s (Mo_looked s + 1)) else o_bd (Mod_wrongAt 8 (Mo_fields s) (Mo_set_looked s (Mo_looked s + 1))) fun q2 => Mod_comes_j30 q2) = some (k, s') := h
  rw [if_neg c] at h
  obtain ⟨s2, e2, h⟩ := oi_bd h
  have w := wrong_x (by decide) e2
  have wl : Mo_looked s2 = Mo_looked s + 1 := wrong_l e2
  have c2 : (2000 : Int32) < Mo_looked s2 := by rw [wl, i_lt, e, kt]; decide
  unfold Mod_comes_j30 at h
  rw [if_pos c2] at h
  cases h
  exact ⟨rfl, w.1, w.2.1⟩
