-- writing
def KN (a b : S_Mo) : Prop := Mo_used a = Mo_used b ∧ Mo_taped a = Mo_taped b ∧ Mo_codes a = Mo_codes b ∧ Mo_groups a = Mo_groups b
theorem KN.refl (a : S_Mo) : KN a a := ⟨rfl, rfl, rfl, rfl⟩
theorem KN.trans {a b c : S_Mo} (h : KN a b) (g : KN b c) : KN a c := ⟨h.1.trans g.1, h.2.1.trans g.2.1, h.2.2.1.trans g.2.2.1, h.2.2.2.trans g.2.2.2⟩
theorem KM.kn {a b : S_Mo} (h : KM a b) : KN a b := ⟨h.1, h.2.1, h.2.2.1, h.2.2.2.1⟩
abbrev A26 : Type := Int32 × S_Mo × (Nat → Int64) × (Nat → Int32) × (Nat → Int32) × (Nat → Int32) × (Nat → Int32) × (Nat → Int32) × (Nat → Int32) × (Nat → Int32) × (Nat → Int32) × (Nat → Int32) × (Nat → Int32) × (Nat → Int32) × (Nat → Int32) × (Nat → Int32) × (Nat → Int32) × (Nat → Int64) × (Nat → Int32) × (Nat → Int32) × (Nat → Int32) × (Nat → Int32) × (Nat → Int32) × (Nat → Int32) × (Nat → Int32) × (Nat → Int64)
def WrP (z : S_Mo) (r : A26) : Prop := MA r.2.1 r.2.2.2.2.2.2.2.2.2.1 r.2.2.2.2.2.2.2.2.2.2.1 r.2.2.2.2.2.2.2.2.2.2.2.2.2.1 r.2.2.2.2.2.2.2.2.2.2.2.2.2.2.2.2.2.2.1 r.2.2.2.2.2.2.2.2.2.2.2.2.2.2.2.2.2.2.2.1 ∧ KN r.2.1 z
theorem t_wr_L219 {fu : Nat} {th sc rf wi ls le : Nat → Int32} {va : Nat → Int64} {x1 x2 : Int32} {s : S_Mo} {rd : Nat → Int64} {li ne en be lf tu fo op ki co wd sca lk rp : Nat → Int32} {ba : Nat → Int64} {ea pa bi fk fw fs : Nat → Int32} {fb : Nat → Int64} {ke : (Nat → Int32) → Option A26} {P : A26 → Prop} (hM : (Mo_many s).toInt ≤ 40000) (hke : ∀ m, So (ke m) P) : ∀ (n k : Nat) (x : Int32) (ma : Nat → Int32), x.toInt = (k : Int) → k ≤ 40000 → 40000 - k < n → So (Mod_write_L219 fu th sc rf wi ls le va x1 x2 s rd li ne en be lf tu fo op ki co wd sca lk rp ba ea pa bi fk fw fs fb ke n x ma) P
  | 0, k, x, ma, _, _, h => absurd h (by omega)
  | n + 1, k, x, ma, hx, hk, hn => by
    rw [Mod_write_L219]
    have k1 : (1 : Int32).toInt = 1 := by decide
    refine So.ite (fun c => hke _) (fun c => ?_)
    rw [i_le] at c
    have e1 := i_add (a := x) (b := 1) (by omega) (by omega)
    refine So.gd (i_in.mpr (by omega)) (So.gd (i_in.mpr (by omega)) (So.lt ?_))
    exact t_wr_L219 hM hke n (k + 1) (x + 1) _ (by omega) (by omega) (by omega)
theorem t_wr_j192 {fu : Nat} {th sc rf wi ls le : Nat → Int32} {va : Nat → Int64} {x1 x2 : Int32} {s z : S_Mo} {rd : Nat → Int64} {li ne en be lf tu fo op ki co wd sca lk rp : Nat → Int32} {ba : Nat → Int64} {ea pa bi ma fk fw fs : Nat → Int32} {fb : Nat → Int64} (hf2 : 45000 ≤ fu) (A : MA s fo op wd ea pa) (K : KN s z) (hM : (Mo_many s).toInt ≤ 40000) : So (Mod_write_j192 fu th sc rf wi ls le va x1 x2 s rd li ne en be lf tu fo op ki co wd sca lk rp ba ea pa bi ma fk fw fs fb) (WrP z) := by
  unfold Mod_write_j192
  obtain ⟨I, a1, a2, a3, a4, a5⟩ := A
  have j205 : ∀ t : Int32, So (Mod_write_j205 fu th sc rf wi ls le va x1 x2 t s rd li ne en be lf tu fo op ki co wd sca lk rp ba ea pa bi ma fk fw fs fb) (WrP z) := by
    intro t
    unfold Mod_write_j205
    refine So.lt (So.ite (fun _ => ?_) (fun _ => ?_))
    · refine t_wr_L219 (s := Mo_set_thrown s t) hM (fun m => ?_) fu 0 0 ma rfl (by omega) (by omega)
      unfold Mod_write_j245 Mod_write_j265
      have I2 : I_Mo (Mo_set_madeMany (Mo_set_thrown s t) (Mo_many (Mo_set_thrown s t))) := I_Mo_set_madeMany (I_Mo_set_thrown I) ⟨(I_Mo_many I).1, hM⟩
      refine So.lt (So.ite (fun _ => So.lt (So.lt (So.lt ?_))) (fun _ => So.lt (So.lt (So.lt ?_))))
      · exact So.one ⟨⟨I_Mo_set_written (I_Mo_set_madeSubsets (I_Mo_set_madeKind I2)), a1, a2, a3, a4, a5⟩, K⟩
      · exact So.one ⟨⟨I_Mo_set_written (I_Mo_set_madeSubsets (I_Mo_set_madeKind I2)), a1, a2, a3, a4, a5⟩, K⟩
    · exact So.one ⟨⟨I_Mo_set_thrown I, a1, a2, a3, a4, a5⟩, K⟩
  exact So.ite (fun _ => j205 _) (fun _ => j205 _)
theorem t_wr_L165 {fu : Nat} {th sc rf wi ls le : Nat → Int32} {va : Nat → Int64} {x1 x2 : Int32} {z : S_Mo} {rd : Nat → Int64} {li ne en be lf tu fo op ki co wd sca lk rp : Nat → Int32} {ba : Nat → Int64} {ea pa ma fk fw fs : Nat → Int32} {fb : Nat → Int64} (hf2 : 45000 ≤ fu) (h8 : x1.toInt ≤ 8) (A : A_MfoundOps fo ∧ A_Mops op ∧ A_Mwidth wd ∧ A_MelementAt ea ∧ A_MpointAt pa) (y : S_Mo) (V : Mo_fault y = 0 → ∀ i : Nat, (i : Int) < (Mo_fields y).toInt → ∀ j : Nat, (j : Int) < x1.toInt → VC1 (va (100 * j + i)) (ki i) (wd i) (ba i)) (K : KN y z) : ∀ (n k : Nat) (x : Int32) (s : S_Mo) (bi : Nat → Int32), x.toInt = (k : Int) → k ≤ 100 → 100 - k < n → KL s y → (Mo_many s).toInt ≤ 294 * k → So (Mod_write_L165 fu th sc rf wi ls le va x1 x2 rd li ne en be lf tu fo op ki co wd sca lk rp ba ea pa ma fk fw fs fb (fun zMo zMbits => Mod_write_j192 fu th sc rf wi ls le va x1 x2 zMo rd li ne en be lf tu fo op ki co wd sca lk rp ba ea pa zMbits ma fk fw fs fb) n x s bi) (WrP z)
  | 0, k, x, s, bi, _, _, h, _, _ => absurd h (by omega)
  | n + 1, k, x, s, bi, hx, hk, hn, L, hm => by
    rw [Mod_write_L165]
    obtain ⟨a1, a2, a3, a4, a5⟩ := A
    have out : ∀ bi, So (Mod_write_j192 fu th sc rf wi ls le va x1 x2 s rd li ne en be lf tu fo op ki co wd sca lk rp ba ea pa bi ma fk fw fs fb) (WrP z) := fun bi => t_wr_j192 hf2 ⟨L.1, a1, a2, a3, a4, a5⟩ (L.2.1.kn.trans K) (by omega)
    have k1 : (1 : Int32).toInt = 1 := by decide
    refine So.ite (fun _ => out _) (fun c => ?_)
    rw [i_le] at c
    refine So.ite (fun c2 => ?_) (fun _ => out _)
    have hF := I_Mo_fields L.1
    have hz : Mo_fault y = 0 := i_eq.mpr (by rw [← L.2.2.2, c2])
    have e1 := i_add (a := x) (b := 1) (by omega) (by omega)
    have ix : x.toNatClampNeg = k := by
      have := i_nat (a := x) (by omega)
      omega
    have hfy := L.2.2.1
    refine So.bd (t_layPacked (by omega) a3 (by omega) (by omega) h8 L.1 (by omega) (fun j hj => by rw [ix]; exact V hz k (by omega) j hj)) fun q hq => ?_
    exact t_wr_L165 hf2 h8 ⟨a1, a2, a3, a4, a5⟩ y V K n (k + 1) (x + 1) q.1 q.2 (by omega) (by omega) (by omega) (hq.1.trans L) (by omega)
def W0R (fu : Nat) (th sc rf wi ls le : Nat → Int32) (va : Nat → Int64) (u : Int32) (ff : Int) (fk fw : Nat → Int32) (fb : Nat → Int64) : Prop := ∃ r0 : A19, WD fu th sc rf wi ls le va 0 u r0 ∧ ff = (Mo_fields r0.1).toInt ∧ ∀ i : Nat, (i : Int) < (Mo_fields r0.1).toInt → fk i = r0.2.2.2.2.2.2.2.2.2.2.1 i ∧ fw i = r0.2.2.2.2.2.2.2.2.2.2.2.2.1 i ∧ fb i = r0.2.2.2.2.2.2.2.2.2.2.2.2.2.2.2.2.1 i
theorem t_wr_j134 {fu : Nat} {th sc rf wi ls le : Nat → Int32} {va : Nat → Int64} {x1 x2 : Int32} {s z : S_Mo} {rd : Nat → Int64} {li ne en be lf tu fo op ki co wd sca lk rp : Nat → Int32} {ba : Nat → Int64} {ea pa bi ma fk fw fs : Nat → Int32} {fb : Nat → Int64} (hf2 : 45000 ≤ fu) (Is : A_Mscales sc) (Iw : A_Mwidths wi) (Ils : A_Mlists ls) (Ile : A_Mlengths le) (hc : CompOK fu th sc wi ls le (Mo_used z)) (h8 : x1.toInt ≤ 8) (A : MA s fo op wd ea pa) (K : KN s z) (hg : 0 ≤ (Mo_fault s).toInt) (hm0 : x2 ≠ 0 → (Mo_many s).toInt = 0) (hM : (Mo_many s).toInt ≤ 40000) (hW : Mo_fault s = 0 → W0R fu th sc rf wi ls le va (Mo_used z) (Mo_firstFields s).toInt fk fw fb) : So (Mod_write_j134 fu th sc rf wi ls le va x1 x2 s rd li ne en be lf tu fo op ki co wd sca lk rp ba ea pa bi ma fk fw fs fb) (WrP z) := by
  unfold Mod_write_j134
  have hf : 12000 ≤ fu := by omega
  refine So.ite (fun _ => t_wr_j192 hf2 A K hM) (fun c1 => ?_)
  refine So.ite (fun c2 => ?_) (fun _ => t_wr_j192 hf2 A K hM)
  have hm := hm0 c1
  refine So.bd (t_compare hf Is Iw Ils Ile (by rw [K.1]; exact hc) h8 A hg) fun q hq => ?_
  obtain ⟨Aq, Kq, mq, gq, Vq⟩ := hq
  refine So.ite (fun c3 => ?_) (fun c3 => ?_)
  · obtain ⟨I, a1, a2, a3, a4, a5⟩ := Aq
    have huq : Mo_used q.1 = Mo_used z := Kq.1.trans K.1
    obtain ⟨w, ew, hw⟩ := t_walk2 (z := q.1) (va := va) (bi := bi) (rf := rf) (rd := q.2.1) (li := q.2.2.1) (ne := q.2.2.2.1) (en := q.2.2.2.2.1) (be := q.2.2.2.2.2.1) (lf := q.2.2.2.2.2.2.1) (tu := q.2.2.2.2.2.2.2.1) (ki := q.2.2.2.2.2.2.2.2.2.2.1) (co := q.2.2.2.2.2.2.2.2.2.2.2.1) (sca := q.2.2.2.2.2.2.2.2.2.2.2.2.2.1) (lk := q.2.2.2.2.2.2.2.2.2.2.2.2.2.2.1) (rp := q.2.2.2.2.2.2.2.2.2.2.2.2.2.2.2.1) (ba := q.2.2.2.2.2.2.2.2.2.2.2.2.2.2.2.2.1) (a0 := 0) (a1 := 1) hf Is Iw Ils Ile I a1 a2 a3 a4 a5 c3 (by decide) (by decide) (Or.inl (by decide)) (Or.inl (by decide)) (KM.refl _) (by rw [huq]; exact hc)
    refine So.bde ew ?_
    obtain ⟨⟨W, WKw, w3, w4, w5, w6, w7⟩, Kw⟩ := hw
    have hmw : (Mo_many w.1).toInt = (Mo_many q.1).toInt := WKw.2.2.2.2
    have hsub : (Mo_subset w.1).toInt = (0 : Int32).toInt := WKw.2.2.1
    have k0 : (0 : Int32).toInt = 0 := by decide
    have hsn : (Mo_subset w.1).toNatClampNeg = 0 := by
      have := i_nat (a := Mo_subset w.1) (by omega)
      omega
    unfold Mod_write_j163
    refine t_wr_L165 hf2 h8 ⟨w3, w4, w5, w6, w7⟩ w.1 (fun hz => ?_) (Kw.kn.trans (Kq.kn.trans K)) fu 0 0 w.1 bi rfl (by omega) (by omega) ⟨W.1, KM.refl _, rfl, rfl⟩ (by omega)
    have wd1 : WD fu th sc rf wi ls le va 0 (Mo_used z) w := ⟨q.1, bi, _, _, _, _, _, _, _, _, _, _, _, _, _, _, _, _, _, _, ew, hz, I, a1, a2, a3, a4, a5, c3, huq⟩
    obtain ⟨r0, wd0, hff, hfi⟩ := hW c2
    obtain ⟨RSw, FDw, VDw⟩ := d_walk hf Iw Is Ils Ile (by decide) (by decide) hc wd1 wd0
    have hfe : Mo_fields w.1 = Mo_fields r0.1 := RSw.2.2.2.2.2.1
    intro i hi j hj
    by_cases ej : j = 0
    · subst ej
      have := VDw i hi
      rw [hsn] at this
      exact this
    · have hi0 : (i : Int) < (Mo_fields r0.1).toInt := by rw [← hfe]; exact hi
      have hv := Vq c3 j (by omega) hj i (by omega)
      obtain ⟨g1, g2, g3⟩ := hfi i hi0
      obtain ⟨e1, e2, e3⟩ := FDw i hi
      rw [g1, g2, g3, ← e1, ← e2, ← e3] at hv
      exact hv
  · obtain ⟨I, a1, a2, a3, a4, a5⟩ := Aq
    unfold Mod_write_j163
    exact t_wr_L165 hf2 h8 ⟨a1, a2, a3, a4, a5⟩ q.1 (fun hz => absurd hz c3) (Kq.kn.trans K) fu 0 0 q.1 bi rfl (by omega) (by omega) ⟨I, KM.refl _, rfl, rfl⟩ (by omega)
theorem t_wr_L73 {fu : Nat} {th sc rf wi ls le : Nat → Int32} {va : Nat → Int64} {x1 x2 x3 : Int32} {rd : Nat → Int64} {li ne en be lf tu fo op ki co wd sca lk rp : Nat → Int32} {ba : Nat → Int64} {ea pa ma fk fw fs : Nat → Int32} {fb : Nat → Int64} {ke : S_Mo → (Nat → Int32) → Option A26} {P : A26 → Prop} (hf : 12000 ≤ fu) (Aw : A_Mwidth wd) (h0 : 0 ≤ x3.toInt) (h7 : x3.toInt ≤ 7) (y : S_Mo) (hy : (Mo_many y).toInt ≤ 3200 * x3.toInt) (hke : ∀ (s : S_Mo) (bi : Nat → Int32), KL s y → (Mo_many s).toInt ≤ 3200 * x3.toInt + 3200 → (x2 ≠ 0 → (Mo_many s).toInt = (Mo_many y).toInt) → So (ke s bi) P) : ∀ (n k : Nat) (x : Int32) (s : S_Mo) (bi : Nat → Int32), x.toInt = (k : Int) → k ≤ 100 → 100 - k < n → KL s y → (Mo_many s).toInt ≤ 3200 * x3.toInt + 32 * k → (x2 ≠ 0 → (Mo_many s).toInt = (Mo_many y).toInt) → So (Mod_write_L73 fu th sc rf wi ls le va x1 x2 x3 rd li ne en be lf tu fo op ki co wd sca lk rp ba ea pa ma fk fw fs fb ke n x s bi) P
  | 0, k, x, s, bi, _, _, h, _, _, _ => absurd h (by omega)
  | n + 1, k, x, s, bi, hx, hk, hn, L, hm, h2 => by
    rw [Mod_write_L73]
    have out : ∀ bi, So (ke s bi) P := fun bi => hke s bi L (by omega) h2
    have k1 : (1 : Int32).toInt = 1 := by decide
    have k100 : (100 : Int32).toInt = 100 := by decide
    refine So.ite (fun _ => out _) (fun c => ?_)
    rw [i_le] at c
    have hF := I_Mo_fields L.1
    refine So.ite (fun c2 => So.ite (fun c3 => ?_) (fun _ => out _)) (fun _ => out _)
    have e1 := i_add (a := x) (b := 1) (by omega) (by omega)
    have m1 := i_mull 100 x3 100 (by decide) (by omega) (by omega)
    have m2 := i_add (a := 100 * x3) (b := x) (by omega) (by omega)
    have hw := A_Mwidth_at Aw x.toNatClampNeg
    refine So.gd (i_in.mpr (by omega)) ?_
    have hr : So (Mod_raw s ki wd ba x (va (100 * x3 + x).toNatClampNeg)) (fun _ => True) := by
      unfold Mod_raw
      have g1 : o_in x 101 = true := i_in.mpr (by omega)
      refine So.gd g1 (So.ite (fun _ => So.one trivial) (fun _ => So.ite (fun _ => So.gd g1 (So.bd t_Mod_most fun _ _ => So.one trivial)) (fun _ => So.gd g1 (So.one trivial))))
    refine So.bd hr fun q13 _ => So.gd (i_in.mpr (by omega)) ?_
    refine So.bd (c_lay hf L.1 hw.1 (by omega) (by omega)) fun q hq => ?_
    exact t_wr_L73 hf Aw h0 h7 y hy hke n (k + 1) (x + 1) q.1 q.2 (by omega) (by omega) (by omega) (hq.1.trans L) (by omega) (fun e => absurd c3 e)
theorem t_wr_L44 {fu : Nat} {th sc rf wi ls le : Nat → Int32} {va : Nat → Int64} {x1 x2 : Int32} {ma : Nat → Int32} (hf2 : 45000 ≤ fu) (Is : A_Mscales sc) (Iw : A_Mwidths wi) (Ils : A_Mlists ls) (Ile : A_Mlengths le) (z : S_Mo) (hc : CompOK fu th sc wi ls le (Mo_used z)) (h8 : x1.toInt ≤ 8) (h1 : 1 ≤ x1.toInt) : ∀ (n k : Nat) (x : Int32) (s : S_Mo) (rd : Nat → Int64) (li ne en be lf tu fo op ki co wd sca lk rp : Nat → Int32) (ba : Nat → Int64) (ea pa bi fk fw fs : Nat → Int32) (fb : Nat → Int64), x.toInt = (k : Int) → k ≤ 8 → 8 - k < n → MA s fo op wd ea pa → KN s z → 0 ≤ (Mo_fault s).toInt → (Mo_many s).toInt ≤ 3200 * k → (x2 ≠ 0 → (Mo_many s).toInt = 0) → (1 ≤ k → Mo_fault s = 0 → W0R fu th sc rf wi ls le va (Mo_used z) (Mo_firstFields s).toInt fk fw fb) → (k = 0 → Mo_fault s ≠ 0 → True) → So (Mod_write_L44 fu th sc rf wi ls le va x1 x2 ma (fun zMo zMread zMlist zMnext zMend zMbegin zMleft zMturn zMfoundOps zMops zMkind zMcode zMwidth zMscale zMlink zMrepeat zMbase zMelementAt zMpointAt zMbits zMfirstKind zMfirstWidth zMfirstScale zMfirstBase => Mod_write_j134 fu th sc rf wi ls le va x1 x2 zMo zMread zMlist zMnext zMend zMbegin zMleft zMturn zMfoundOps zMops zMkind zMcode zMwidth zMscale zMlink zMrepeat zMbase zMelementAt zMpointAt zMbits ma zMfirstKind zMfirstWidth zMfirstScale zMfirstBase) n x s rd li ne en be lf tu fo op ki co wd sca lk rp ba ea pa bi fk fw fs fb) (WrP z)
  | 0, k, x, s, rd, li, ne, en, be, lf, tu, fo, op, ki, co, wd, sca, lk, rp, ba, ea, pa, bi, fk, fw, fs, fb, _, _, h, _, _, _, _, _, _, _ => absurd h (by omega)
  | n + 1, k, x, s, rd, li, ne, en, be, lf, tu, fo, op, ki, co, wd, sca, lk, rp, ba, ea, pa, bi, fk, fw, fs, fb, hx, hk, hn, A, K, hg, hm, hm0, hW, hT => by
    rw [Mod_write_L44]
    have hf : 12000 ≤ fu := by omega
    have k1 : (1 : Int32).toInt = 1 := by decide
    have k0 : (0 : Int32).toInt = 0 := by decide
    refine So.ite (fun c => ?_) (fun c => ?_)
    · rw [i_le] at c
      exact t_wr_j134 hf2 Is Iw Ils Ile hc h8 A K hg hm0 (by omega) (hW (by omega))
    · rw [i_le] at c
      refine So.ite (fun c2 => ?_) (fun c2 => t_wr_j134 hf2 Is Iw Ils Ile hc h8 A K hg hm0 (by omega) (fun e => absurd e c2))
      obtain ⟨I, a1, a2, a3, a4, a5⟩ := A
      have hu : Mo_used s = Mo_used z := K.1
      obtain ⟨q, eq, hq⟩ := t_walk2 (z := s) (va := va) (bi := bi) (rf := rf) (rd := rd) (li := li) (ne := ne) (en := en) (be := be) (lf := lf) (tu := tu) (ki := ki) (co := co) (sca := sca) (lk := lk) (rp := rp) (ba := ba) (a0 := x) (a1 := 1) hf Is Iw Ils Ile I a1 a2 a3 a4 a5 c2 (by omega) (by omega) (Or.inl (by decide)) (Or.inl (by decide)) (KM.refl _) (by rw [hu]; exact hc)
      refine So.bde eq ?_
      obtain ⟨⟨W, WKq, w3, w4, w5, w6, w7⟩, Kq⟩ := hq
      have hmq : (Mo_many q.1).toInt = (Mo_many s).toInt := WKq.2.2.2.2
      have e1 := i_add (a := x) (b := 1) (by omega) (by omega)
      have j70 : ∀ (t : S_Mo) (fk2 fw2 fs2 : Nat → Int32) (fb2 : Nat → Int64), I_Mo t → KN t z → 0 ≤ (Mo_fault t).toInt → (Mo_many t).toInt = (Mo_many s).toInt → (Mo_fault t = 0 → W0R fu th sc rf wi ls le va (Mo_used z) (Mo_firstFields t).toInt fk2 fw2 fb2) → So (Mod_write_j70 fu th sc rf wi ls le va (fun v0 v1 v2 v3 v4 v5 v6 v7 v8 v9 v10 v11 v12 v13 v14 v15 v16 v17 v18 v19 v20 v21 v22 v23 v24 => Mod_write_L44 fu th sc rf wi ls le va x1 x2 ma (fun zMo zMread zMlist zMnext zMend zMbegin zMleft zMturn zMfoundOps zMops zMkind zMcode zMwidth zMscale zMlink zMrepeat zMbase zMelementAt zMpointAt zMbits zMfirstKind zMfirstWidth zMfirstScale zMfirstBase => Mod_write_j134 fu th sc rf wi ls le va x1 x2 zMo zMread zMlist zMnext zMend zMbegin zMleft zMturn zMfoundOps zMops zMkind zMcode zMwidth zMscale zMlink zMrepeat zMbase zMelementAt zMpointAt zMbits ma zMfirstKind zMfirstWidth zMfirstScale zMfirstBase) n v0 v1 v2 v3 v4 v5 v6 v7 v8 v9 v10 v11 v12 v13 v14 v15 v16 v17 v18 v19 v20 v21 v22 v23 v24) (fun zMo zMread zMlist zMnext zMend zMbegin zMleft zMturn zMfoundOps zMops zMkind zMcode zMwidth zMscale zMlink zMrepeat zMbase zMelementAt zMpointAt zMbits zMfirstKind zMfirstWidth zMfirstScale zMfirstBase => Mod_write_j134 fu th sc rf wi ls le va x1 x2 zMo zMread zMlist zMnext zMend zMbegin zMleft zMturn zMfoundOps zMops zMkind zMcode zMwidth zMscale zMlink zMrepeat zMbase zMelementAt zMpointAt zMbits ma zMfirstKind zMfirstWidth zMfirstScale zMfirstBase) x1 x2 ma x t q.2.1 q.2.2.1 q.2.2.2.1 q.2.2.2.2.1 q.2.2.2.2.2.1 q.2.2.2.2.2.2.1 q.2.2.2.2.2.2.2.1 q.2.2.2.2.2.2.2.2.1 q.2.2.2.2.2.2.2.2.2.1 q.2.2.2.2.2.2.2.2.2.2.1 q.2.2.2.2.2.2.2.2.2.2.2.1 q.2.2.2.2.2.2.2.2.2.2.2.2.1 q.2.2.2.2.2.2.2.2.2.2.2.2.2.1 q.2.2.2.2.2.2.2.2.2.2.2.2.2.2.1 q.2.2.2.2.2.2.2.2.2.2.2.2.2.2.2.1 q.2.2.2.2.2.2.2.2.2.2.2.2.2.2.2.2.1 q.2.2.2.2.2.2.2.2.2.2.2.2.2.2.2.2.2.1 q.2.2.2.2.2.2.2.2.2.2.2.2.2.2.2.2.2.2 bi fk2 fw2 fs2 fb2) (WrP z) := by
        intro t fk2 fw2 fs2 fb2 It Kt gt mt hWt
        unfold Mod_write_j70
        refine t_wr_L73 hf w5 (by omega) (by omega) t (by omega) (fun s' bi' L' m' h' => ?_) fu 0 0 t bi rfl (by omega) (by omega) ⟨It, KM.refl _, rfl, rfl⟩ (by omega) (fun _ => rfl)
        unfold Mod_write_j128
        refine t_wr_L44 hf2 Is Iw Ils Ile z hc h8 h1 n (k + 1) (x + 1) s' _ _ _ _ _ _ _ _ _ _ _ _ _ _ _ _ _ _ bi' fk2 fw2 fs2 fb2 (by omega) (by omega) (by omega) ⟨L'.1, w3, w4, w5, w6, w7⟩ (L'.2.1.kn.trans Kt) (by rw [L'.2.2.2]; exact gt) (by omega) (fun e => by rw [h' e, mt]; exact hm0 e) (fun _ e => ?_) (fun _ _ => trivial)
        have hff : Mo_firstFields s' = Mo_firstFields t := L'.2.1.2.2.2.2.2.2.2.2
        rw [hff]
        exact hWt (i_eq.mpr (by rw [← L'.2.2.2, e]))
      refine So.ite (fun c3 => ?_) (fun c3 => ?_)
      · have hk0 : k = 0 := by
          rw [i_eq] at c3
          omega
        refine So.bd (t_keepFirst hf W.1) fun p hp => ?_
        obtain ⟨ep, hpi⟩ := hp
        refine j70 p.1 _ _ _ _ ?_ ?_ ?_ ?_ (fun e => ?_)
        · rw [ep]; exact I_Mo_set_firstFields W.1 (I_Mo_fields W.1)
        · rw [ep]; exact Kq.kn.trans K
        · rw [ep]; exact W.2.2.2.2.1
        · rw [ep]; exact hmq
        · rw [ep] at e ⊢
          have wd0 : WD fu th sc rf wi ls le va 0 (Mo_used z) q := ⟨s, bi, rd, li, ne, en, be, lf, tu, fo, op, ki, co, wd, sca, lk, rp, ba, ea, pa, by rw [← c3]; exact eq, e, I, a1, a2, a3, a4, a5, c2, hu⟩
          exact ⟨q, wd0, rfl, hpi⟩
      · have hk1 : 1 ≤ k := by
          rw [i_eq] at c3
          omega
        refine j70 q.1 fk fw fs fb W.1 (Kq.kn.trans K) W.2.2.2.2.1 hmq (fun e => ?_)
        have hff : Mo_firstFields q.1 = Mo_firstFields s := Kq.2.2.2.2.2.2.2.2
        rw [hff]
        exact hW hk1 c2
theorem t_wr_all {fu : Nat} {th sc rf wi ls le : Nat → Int32} {va : Nat → Int64} {a0 a1 : Int32} {s : S_Mo} {rd : Nat → Int64} {li ne en be lf tu fo op ki co wd sca lk rp : Nat → Int32} {ba : Nat → Int64} {ea pa bi ma fk fw fs : Nat → Int32} {fb : Nat → Int64} (hf2 : 45000 ≤ fu) (Is : A_Mscales sc) (Iw : A_Mwidths wi) (Ils : A_Mlists ls) (Ile : A_Mlengths le) (A : MA s fo op wd ea pa) : So (Mod_write fu th sc rf wi ls le va a0 a1 s rd li ne en be lf tu fo op ki co wd sca lk rp ba ea pa bi ma fk fw fs fb) (WrP s) := by
  unfold Mod_write
  have hf : 12000 ≤ fu := by omega
  have k1 : (1 : Int32).toInt = 1 := by decide
  have k0 : (0 : Int32).toInt = 0 := by decide
  have k8 : (8 : Int32).toInt = 8 := by decide
  obtain ⟨I, b1, b2, b3, b4, b5⟩ := A
  have ef : Mod_fresh s = some (Mo_set_place (Mo_set_fault s 0) (-1)) := rfl
  refine So.bde ef ?_
  have I1 : I_Mo (Mo_set_place (Mo_set_fault s 0) (-1)) := I_Mo_set_place (I_Mo_set_fault I)
  have j21 : ∀ t : Int32, (t ≤ 0 → 1 ≤ a0.toInt ∧ a0.toInt ≤ 8) → So (Mod_write_j21 fu th sc rf wi ls le va a0 a1 t (Mo_set_place (Mo_set_fault s 0) (-1)) rd li ne en be lf tu fo op ki co wd sca lk rp ba ea pa bi ma fk fw fs fb) (WrP s) := by
    intro t ht
    unfold Mod_write_j21
    refine So.lt (So.ite (fun c => ?_) (fun c => ?_))
    · have hr := ht c
      refine So.bd (t_Mod_compileAll hf Iw Is Ils Ile (I_Mo_set_thrown (v := t) I1) b1 b2) fun q h => ?_
      obtain ⟨p1, p2, p3, p4, p5, p6⟩ := h
      have Kq : KM q.1 s := p2
      refine So.lt ?_
      have I2 : I_Mo (Mo_set_many q.1 0) := I_Mo_set_many p1 (by decide)
      by_cases hz : Mo_fault q.1 = 0
      · exact t_wr_L44 hf2 Is Iw Ils Ile s (p6 hz) hr.2 hr.1 fu 0 0 (Mo_set_many q.1 0) _ _ _ _ _ _ _ _ _ _ _ _ _ _ _ _ _ _ _ _ _ _ _ rfl (by omega) (by omega) ⟨I2, p4, p5, b3, b4, b5⟩ Kq.kn p3 (by show (0 : Int32).toInt ≤ _; omega) (fun _ => k0) (fun h _ => absurd h (by omega)) (fun _ _ => trivial)
      · obtain ⟨m, rfl⟩ : ∃ m, fu = m + 1 := ⟨fu - 1, by omega⟩
        generalize hfu : m + 1 = fu' at *
        have go : ∀ n, n = m + 1 → So (Mod_write_L44 fu' th sc rf wi ls le va a0 a1 ma (fun zMo zMread zMlist zMnext zMend zMbegin zMleft zMturn zMfoundOps zMops zMkind zMcode zMwidth zMscale zMlink zMrepeat zMbase zMelementAt zMpointAt zMbits zMfirstKind zMfirstWidth zMfirstScale zMfirstBase => Mod_write_j134 fu' th sc rf wi ls le va a0 a1 zMo zMread zMlist zMnext zMend zMbegin zMleft zMturn zMfoundOps zMops zMkind zMcode zMwidth zMscale zMlink zMrepeat zMbase zMelementAt zMpointAt zMbits ma zMfirstKind zMfirstWidth zMfirstScale zMfirstBase) n 0 (Mo_set_many q.1 0) rd q.2.1 q.2.2.1 q.2.2.2.1 q.2.2.2.2.1 q.2.2.2.2.2.1 q.2.2.2.2.2.2.1 q.2.2.2.2.2.2.2.1 q.2.2.2.2.2.2.2.2 ki co wd sca lk rp ba ea pa bi fk fw fs fb) (WrP s) := by
          intro n hn
          subst hn
          rw [Mod_write_L44]
          refine So.neg (by rw [i_le]; omega) ?_
          refine So.neg hz ?_
          unfold Mod_write_j134
          refine So.ite (fun _ => ?_) (fun _ => So.neg hz ?_)
          · exact t_wr_j192 hf2 ⟨I2, p4, p5, b3, b4, b5⟩ Kq.kn (by show (0 : Int32).toInt ≤ 40000; decide)
          · exact t_wr_j192 hf2 ⟨I2, p4, p5, b3, b4, b5⟩ Kq.kn (by show (0 : Int32).toInt ≤ 40000; decide)
        exact go fu' hfu.symm
    · exact So.one ⟨⟨I_Mo_set_thrown I1, b1, b2, b3, b4, b5⟩, KN.refl _⟩
  have j16 : So (Mod_write_j16 fu th sc rf wi ls le va a0 a1 (Mo_set_place (Mo_set_fault s 0) (-1)) rd li ne en be lf tu fo op ki co wd sca lk rp ba ea pa bi ma fk fw fs fb) (WrP s) := by
    unfold Mod_write_j16
    exact j21 1 (fun h => absurd h (by decide))
  refine So.ite (fun _ => j16) (fun c => So.ite (fun c2 => ?_) (fun _ => j16))
  rw [i_lt] at c
  rw [i_le] at c2
  exact j21 0 (fun _ => by omega)
