-- comparing subsets with the first
def AG (k : Nat) (ki wd : Nat → Int32) (ba : Nat → Int64) (fk fw : Nat → Int32) (fb : Nat → Int64) : Prop := ∀ i, i < k → ki i = fk i ∧ wd i = fw i ∧ ba i = fb i
theorem t_cmp_L22 {fu : Nat} {th sc rf wi ls le : Nat → Int32} {va : Nat → Int64} {bi fk fw fs : Nat → Int32} {fb : Nat → Int64} {x1 x2 : Int32} {s : S_Mo} {rd : Nat → Int64} {li ne en be lf tu fo op ki co wd sca lk rp : Nat → Int32} {ba : Nat → Int64} {ea pa : Nat → Int32} {ke : Int32 → Option A19} {P : A19 → Prop} (I : I_Mo s) (hke : ∀ (y : Int32) (m : Nat), y.toInt = (m : Int) → (m : Int) ≤ (Mo_fields s).toInt → (m : Int) ≤ (Mo_firstFields s).toInt → AG m ki wd ba fk fw fb → So (ke y) P) : ∀ (n k : Nat) (x : Int32), x.toInt = (k : Int) → (k : Int) ≤ (Mo_fields s).toInt → (k : Int) ≤ (Mo_firstFields s).toInt → 100 - k < n → AG k ki wd ba fk fw fb → So (Mod_compare_L22 fu th sc rf wi ls le va bi fk fw fs fb x1 x2 s rd li ne en be lf tu fo op ki co wd sca lk rp ba ea pa ke n x) P
  | 0, k, x, _, h, _, h2, _ => absurd h2 (by have := I_Mo_fields I; omega)
  | n + 1, k, x, hx, h1, h2, hn, ha => by
    rw [Mod_compare_L22]
    have hF := I_Mo_fields I
    have k1 : (1 : Int32).toInt = 1 := by decide
    refine So.ite (fun c => hke x k hx h1 h2 ha) (fun c => ?_)
    rw [i_le] at c
    refine So.ite (fun c2 => hke x k hx h1 h2 ha) (fun c2 => ?_)
    rw [i_le] at c2
    have ix : x.toNatClampNeg = k := by
      have := i_nat (a := x) (by omega)
      omega
    refine So.bd (t_isLike I (by omega) (by omega)) fun q hq => ?_
    refine So.ite (fun c3 => hke x k hx h1 h2 ha) (fun c3 => ?_)
    have e1 := i_add (a := x) (b := 1) (by omega) (by omega)
    rw [ix] at hq
    refine t_cmp_L22 I hke n (k + 1) (x + 1) (by omega) (by omega) (by omega) (by omega) (fun i hi => ?_)
    by_cases e : i = k
    · rw [e]
      rcases hq with h | h
      · exact absurd h c3
      · exact h
    · exact ha i (by omega)
def MA (s : S_Mo) (fo op wd ea pa : Nat → Int32) : Prop := I_Mo s ∧ A_MfoundOps fo ∧ A_Mops op ∧ A_Mwidth wd ∧ A_MelementAt ea ∧ A_MpointAt pa
def FV (va : Nat → Int64) (x : Int) (ff : Int) (fk fw : Nat → Int32) (fb : Nat → Int64) : Prop := ∀ j : Nat, 1 ≤ j → (j : Int) < x → ∀ i : Nat, (i : Int) < ff → VC1 (va (100 * j + i)) (fk i) (fw i) (fb i)
def CmpP (va : Nat → Int64) (x1 : Int32) (fk fw : Nat → Int32) (fb : Nat → Int64) (z : S_Mo) (r : A19) : Prop := MA r.1 r.2.2.2.2.2.2.2.2.1 r.2.2.2.2.2.2.2.2.2.1 r.2.2.2.2.2.2.2.2.2.2.2.2.1 r.2.2.2.2.2.2.2.2.2.2.2.2.2.2.2.2.2.1 r.2.2.2.2.2.2.2.2.2.2.2.2.2.2.2.2.2.2 ∧ KM r.1 z ∧ (Mo_many r.1).toInt = (Mo_many z).toInt ∧ 0 ≤ (Mo_fault r.1).toInt ∧ (Mo_fault r.1 = 0 → FV va x1.toInt (Mo_firstFields z).toInt fk fw fb)
theorem t_cmp_L2 {fu : Nat} {th sc rf wi ls le : Nat → Int32} {va : Nat → Int64} {bi fk fw fs : Nat → Int32} {fb : Nat → Int64} {x1 : Int32} (hf : 12000 ≤ fu) (Is : A_Mscales sc) (Iw : A_Mwidths wi) (Ils : A_Mlists ls) (Ile : A_Mlengths le) (z : S_Mo) (hc : CompOK fu th sc wi ls le (Mo_used z)) (hx1 : x1.toInt ≤ 8) : ∀ (n k : Nat) (x : Int32) (s : S_Mo) (rd : Nat → Int64) (li ne en be lf tu fo op ki co wd sca lk rp : Nat → Int32) (ba : Nat → Int64) (ea pa : Nat → Int32), x.toInt = (k : Int) → 1 ≤ k → k ≤ 8 → 8 - k < n → MA s fo op wd ea pa → KM s z → (Mo_many s).toInt = (Mo_many z).toInt → 0 ≤ (Mo_fault s).toInt → (Mo_fault s = 0 → FV va k (Mo_firstFields z).toInt fk fw fb) → So (Mod_compare_L2 fu th sc rf wi ls le va bi fk fw fs fb x1 n x s rd li ne en be lf tu fo op ki co wd sca lk rp ba ea pa) (CmpP va x1 fk fw fb z)
  | 0, k, x, s, rd, li, ne, en, be, lf, tu, fo, op, ki, co, wd, sca, lk, rp, ba, ea, pa, _, _, _, h, _, _, _, _, _ => absurd h (by omega)
  | n + 1, k, x, s, rd, li, ne, en, be, lf, tu, fo, op, ki, co, wd, sca, lk, rp, ba, ea, pa, hx, hk1, hk, hn, A, K, hm, hg, hV => by
    rw [Mod_compare_L2]
    have k1 : (1 : Int32).toInt = 1 := by decide
    refine So.ite (fun c => ?_) (fun c => ?_)
    · rw [i_le] at c
      exact So.one ⟨A, K, hm, hg, fun e j h1 h2 => hV e j h1 (by omega)⟩
    · rw [i_le] at c
      refine So.ite (fun c2 => ?_) (fun c2 => ?_)
      · obtain ⟨I, a1, a2, a3, a4, a5⟩ := A
        obtain ⟨q, eq, hq⟩ := t_walk2 (z := z) (va := va) (bi := bi) (rf := rf) (rd := rd) (li := li) (ne := ne) (en := en) (be := be) (lf := lf) (tu := tu) (ki := ki) (co := co) (sca := sca) (lk := lk) (rp := rp) (ba := ba) (a0 := x) (a1 := 1) hf Is Iw Ils Ile I a1 a2 a3 a4 a5 c2 (by omega) (by omega) (Or.inl (by decide)) (Or.inl (by decide)) K hc
        refine So.bde eq ?_
        obtain ⟨⟨W, WKq, w3, w4, w5, w6, w7⟩, Kq⟩ := hq
        have e1 := i_add (a := x) (b := 1) (by omega) (by omega)
        have hff : (Mo_firstFields q.1).toInt = (Mo_firstFields z).toInt := by rw [Kq.2.2.2.2.2.2.2.2]
        have hsub : (Mo_subset q.1).toInt = (k : Int) := by
          have : (Mo_subset q.1).toInt = x.toInt := WKq.2.2.1
          omega
        have hmq : (Mo_many q.1).toInt = (Mo_many z).toInt := by
          have : (Mo_many q.1).toInt = (Mo_many s).toInt := WKq.2.2.2.2
          omega
        have hVD : Mo_fault q.1 = 0 → VD va q.1 q.2.2.2.2.2.2.2.2.2.2.1 q.2.2.2.2.2.2.2.2.2.2.2.2.1 q.2.2.2.2.2.2.2.2.2.2.2.2.2.2.2.2.1 := fun hz => by
          have wd1 : WD fu th sc rf wi ls le va x (Mo_used z) q := ⟨s, bi, rd, li, ne, en, be, lf, tu, fo, op, ki, co, wd, sca, lk, rp, ba, ea, pa, eq, hz, I, a1, a2, a3, a4, a5, c2, K.1⟩
          exact (d_walk hf Iw Is Ils Ile (by omega) (by omega) hc wd1 wd1).2.2
        refine t_cmp_L22 W.1 (fun y m hy hm1 hm2 hag => ?_) fu 0 0 rfl (by have := I_Mo_fields W.1; omega) (by have := I_Mo_firstFields W.1; omega) (by omega) (fun i hi => absurd hi (by omega))
        have go : ∀ t : S_Mo, I_Mo t → KM t z → (Mo_many t).toInt = (Mo_many z).toInt → 0 ≤ (Mo_fault t).toInt → (Mo_fault t = 0 → FV va (k + 1 : Nat) (Mo_firstFields z).toInt fk fw fb) → So (Mod_compare_L2 fu th sc rf wi ls le va bi fk fw fs fb x1 n (x + 1) t q.2.1 q.2.2.1 q.2.2.2.1 q.2.2.2.2.1 q.2.2.2.2.2.1 q.2.2.2.2.2.2.1 q.2.2.2.2.2.2.2.1 q.2.2.2.2.2.2.2.2.1 q.2.2.2.2.2.2.2.2.2.1 q.2.2.2.2.2.2.2.2.2.2.1 q.2.2.2.2.2.2.2.2.2.2.2.1 q.2.2.2.2.2.2.2.2.2.2.2.2.1 q.2.2.2.2.2.2.2.2.2.2.2.2.2.1 q.2.2.2.2.2.2.2.2.2.2.2.2.2.2.1 q.2.2.2.2.2.2.2.2.2.2.2.2.2.2.2.1 q.2.2.2.2.2.2.2.2.2.2.2.2.2.2.2.2.1 q.2.2.2.2.2.2.2.2.2.2.2.2.2.2.2.2.2.1 q.2.2.2.2.2.2.2.2.2.2.2.2.2.2.2.2.2.2) (CmpP va x1 fk fw fb z) := fun t It Kt mt gt vt => t_cmp_L2 hf Is Iw Ils Ile z hc hx1 n (k + 1) (x + 1) t _ _ _ _ _ _ _ _ _ _ _ _ _ _ _ _ _ _ (by omega) (by omega) (by omega) (by omega) ⟨It, w3, w4, w5, w6, w7⟩ Kt mt gt vt
        unfold Mod_compare_j52
        have j68 : So (Mod_compare_j68 fu th sc rf wi ls le va bi fk fw fs fb (fun v0 v1 v2 v3 v4 v5 v6 v7 v8 v9 v10 v11 v12 v13 v14 v15 v16 v17 v18 v19 => Mod_compare_L2 fu th sc rf wi ls le va bi fk fw fs fb x1 n v0 v1 v2 v3 v4 v5 v6 v7 v8 v9 v10 v11 v12 v13 v14 v15 v16 v17 v18 v19) x1 x y q.1 q.2.1 q.2.2.1 q.2.2.2.1 q.2.2.2.2.1 q.2.2.2.2.2.1 q.2.2.2.2.2.2.1 q.2.2.2.2.2.2.2.1 q.2.2.2.2.2.2.2.2.1 q.2.2.2.2.2.2.2.2.2.1 q.2.2.2.2.2.2.2.2.2.2.1 q.2.2.2.2.2.2.2.2.2.2.2.1 q.2.2.2.2.2.2.2.2.2.2.2.2.1 q.2.2.2.2.2.2.2.2.2.2.2.2.2.1 q.2.2.2.2.2.2.2.2.2.2.2.2.2.2.1 q.2.2.2.2.2.2.2.2.2.2.2.2.2.2.2.1 q.2.2.2.2.2.2.2.2.2.2.2.2.2.2.2.2.1 q.2.2.2.2.2.2.2.2.2.2.2.2.2.2.2.2.2.1 q.2.2.2.2.2.2.2.2.2.2.2.2.2.2.2.2.2.2) (CmpP va x1 fk fw fb z) := by
          unfold Mod_compare_j68 Mod_compare_j75
          refine So.bd (t_Mod_wrongAt W.1 (by decide)) fun p hp => ?_
          obtain ⟨p1, p2, p3, p4, p5, p6, p7, p8, p9, p10, p11, p12, p13, p14⟩ := hp
          exact go p p1 (p14.trans Kq) (by omega) (by omega) (fun e => by rw [e] at p2; exact absurd p2 (by decide))
        refine So.ite (fun _ => j68) (fun c3 => So.ite (fun c4 => ?_) (fun _ => j68))
        rw [i_lt] at c3
        rw [i_le] at c4
        unfold Mod_compare_j75
        refine go q.1 W.1 Kq hmq W.2.2.2.2.1 (fun e j hj1 hj2 i hi => ?_)
        by_cases ej : j = k
        · subst ej
          have hv := hVD e i (by omega)
          have hn := i_nat (a := Mo_subset q.1) (by omega)
          have : (Mo_subset q.1).toNatClampNeg = j := by omega
          rw [this] at hv
          obtain ⟨g1, g2, g3⟩ := hag i (by omega)
          rw [g1, g2, g3] at hv
          exact hv
        · exact hV c2 j hj1 (by omega) i hi
      · exact So.one ⟨A, K, hm, hg, fun e => absurd e c2⟩
theorem t_compare {fu : Nat} {th sc rf wi ls le : Nat → Int32} {va : Nat → Int64} {bi fk fw fs : Nat → Int32} {fb : Nat → Int64} {a0 : Int32} {s : S_Mo} {rd : Nat → Int64} {li ne en be lf tu fo op ki co wd sca lk rp : Nat → Int32} {ba : Nat → Int64} {ea pa : Nat → Int32} (hf : 12000 ≤ fu) (Is : A_Mscales sc) (Iw : A_Mwidths wi) (Ils : A_Mlists ls) (Ile : A_Mlengths le) (hc : CompOK fu th sc wi ls le (Mo_used s)) (h8 : a0.toInt ≤ 8) (A : MA s fo op wd ea pa) (hg : 0 ≤ (Mo_fault s).toInt) : So (Mod_compare fu th sc rf wi ls le va bi fk fw fs fb a0 s rd li ne en be lf tu fo op ki co wd sca lk rp ba ea pa) (CmpP va a0 fk fw fb s) := by
  unfold Mod_compare
  exact t_cmp_L2 hf Is Iw Ils Ile s hc h8 fu 1 1 s _ _ _ _ _ _ _ _ _ _ _ _ _ _ _ _ _ _ (by decide) (by omega) (by omega) (by omega) A (KM.refl _) rfl hg (fun _ j h1 h2 => absurd h2 (by omega))
