-- the ends of write
theorem bv_lt (f : Nat → Int32) (i : Nat) : Bv f i < 2 := Nat.mod_lt _ (by decide)
theorem j134_bad {fu : Nat} {th sc rf wi ls le : Nat → Int32} {va : Nat → Int64} {x1 x2 : Int32} {s : S_Mo} {rd : Nat → Int64} {li ne en be lf tu fo op ki co wd sca lk rp : Nat → Int32} {ba : Nat → Int64} {ea pa : Nat → Int32} {bi ma fk fw fs : Nat → Int32} {fb : Nat → Int64} {R : A26} (hz : ¬ Mo_fault s ≤ 0) (h : Mod_write_j134 fu th sc rf wi ls le va x1 x2 s rd li ne en be lf tu fo op ki co wd sca lk rp ba ea pa bi ma fk fw fs fb = some R) : R.2.1 = Mo_set_thrown s 1 ∧ R.2.2.2.2.2.2.2.2.2.2.2.2.2.2.2.2.2.2.2.2.2.1 = ma := by
  have nz : ¬ Mo_fault s = 0 := fun e => hz (by rw [e]; decide)
  unfold Mod_write_j134 at h
  by_cases c : x2 = 0
  · rw [if_pos c] at h
    exact (w_bad hz h).2
  · rw [if_neg c, if_neg nz] at h
    exact (w_bad hz h).2
theorem end_ok {fu : Nat} {th sc rf wi ls le : Nat → Int32} {va : Nat → Int64} {f x1 x2 : Int32} {s : S_Mo} {rd : Nat → Int64} {li ne en be lf tu fo op ki co wd sca lk rp : Nat → Int32} {ba : Nat → Int64} {ea pa : Nat → Int32} {bi ma fk fw fs : Nat → Int32} {fb : Nat → Int64} {R : A26} {Wr : S_Wri} {b b' : S_Bits} (hfx : f = if x2 = 0 then 66 else 67) (hx : 0 ≤ x1.toInt ∧ x1.toInt ≤ 255) (hz : Mo_fault s = 0) (W : WrR (hbs f x1) b s bi) (hm : (Mo_many s).toInt ≤ 29400) (e : Wri_end Wr b = some b') (h : Mod_write_j192 fu th sc rf wi ls le va x1 x2 s rd li ne en be lf tu fo op ki co wd sca lk rp ba ea pa bi ma fk fw fs fb = some R) : Mo_thrown R.2.1 = 0 ∧ (Bits_length b' + 7) / 8 = R.1 ∧ MdR b' R.2.1 R.2.2.2.2.2.2.2.2.2.2.2.2.2.2.2.2.2.2.2.2.2.1 := by
  have k7 : (7 : Int32).toInt = 7 := by decide
  have k8 : (8 : Int32).toInt = 8 := by decide
  have W' := W
  obtain ⟨m, m1, m2, m3, m4, m5⟩ := W'
  obtain ⟨g1, g2, g3, g4, g5, g6, g7⟩ := w_good hz m1 (by omega) (fun k hk => by
    have a := m4 k hk
    have b := bv_lt (Bits_bytes b) (32 + k)
    omega) h
  have hf : 0 ≤ f.toInt ∧ f.toInt ≤ 255 := by
    rw [hfx]
    by_cases c : x2 = 0
    · rw [if_pos c]
      decide
    · rw [if_neg c]
      decide
  obtain ⟨d1, d2⟩ := md_of (S' := R.2.1) (ma := R.2.2.2.2.2.2.2.2.2.2.2.2.2.2.2.2.2.2.2.2.2.1) hf hx W hm e (fun j hj => g7 j (by omega)) (by rw [g3]; decide) g4 (g5.trans hfx.symm) g6
  refine ⟨g2, ?_, d1⟩
  have a1 : (Bits_length b' + 7).toInt = 39 + (m : Int) := by
    rw [i_add (a := Bits_length b') (b := 7) (by omega) (by omega), d2, k7, m1]
    omega
  have a2 : ((Bits_length b' + 7) / 8).toInt = (39 + (m : Int)) / 8 := by
    rw [i_divk (Bits_length b' + 7) 8 8 k8 (by decide) (by rw [a1]; clear a1; omega), a1]
  apply i_eq.mpr
  rw [a2, g1]
  clear a1 a2
  omega
-- PLAIN
theorem w_plain {fu M : Nat} {t : S_Tab} {P : S_Prog} {u : Int32} {th sc rf wi ls le : Nat → Int32} {va : Nat → Int64} (hf : 12000 ≤ fu) (It_ : I_Tab t) (IP : I_Prog P) (T : TbR t u th sc rf wi ls le) (Iw : A_Mwidths wi) (Is : A_Mscales sc) (Ils : A_Mlists ls) (Ile : A_Mlengths le) (Irf : Rfb rf) (hc : CompOK fu th sc wi ls le u) (hSg : Sg (It (Tab_listed t) (zT t) (Prog_descriptors P) (Prog_bodyEnds P) 64) M 128 (128 + zT t 16) 0 (Prog_size P).toInt.toNat) {N8 : Nat} {VAL : Nat → Nat → Int64} {X : S_X} {W : S_Walk} {Fl : S_Fld} {L : S_Lps} {Wr : S_Wri} {wb : S_Bits} {a0 a1 : Int32} {s z : S_Mo} {rd : Nat → Int64} {li ne en be lf tu fo op ki co wd sca lk rp : Nat → Int32} {ba : Nat → Int64} {ea pa : Nat → Int32} {bi ma fk fw fs : Nat → Int32} {fb : Nat → Int64} {R : A26} {Q : Int32 × Int32 × S_X × S_Prog × S_Walk × S_Fld × S_Lps × S_Bits} (ca : a1 = 0) (hn : a0.toInt = (N8 : Int)) (h1 : 1 ≤ N8) (h8 : N8 ≤ 8) (V : RwR VAL va) (hG : ∀ j, j < N8 → Gd fu u th sc rf wi ls le va j) (S : WS u z s fo op wd ea pa) (hm : (Mo_many s).toInt = 0) (hx : X_write_j64 fu VAL t Wr a0 a1 X P W Fl L wb = some Q) (h : Mod_write_L44 fu th sc rf wi ls le va a0 a1 ma (fun zMo zMread zMlist zMnext zMend zMbegin zMleft zMturn zMfoundOps zMops zMkind zMcode zMwidth zMscale zMlink zMrepeat zMbase zMelementAt zMpointAt zMbits zMfirstKind zMfirstWidth zMfirstScale zMfirstBase => Mod_write_j134 fu th sc rf wi ls le va a0 a1 zMo zMread zMlist zMnext zMend zMbegin zMleft zMturn zMfoundOps zMops zMkind zMcode zMwidth zMscale zMlink zMrepeat zMbase zMelementAt zMpointAt zMbits ma zMfirstKind zMfirstWidth zMfirstScale zMfirstBase) fu 0 s rd li ne en be lf tu fo op ki co wd sca lk rp ba ea pa bi fk fw fs fb = some R) : ((Q.1 = 0 ∧ Mo_thrown R.2.1 = 0 ∧ Q.2.1 = R.1) ∨ (Q.1 = 1 ∧ Mo_thrown R.2.1 = 1)) ∧ (MdR wb z ma → MdR Q.2.2.2.2.2.2.2 R.2.1 R.2.2.2.2.2.2.2.2.2.2.2.2.2.2.2.2.2.2.2.2.2.1) := by
  have k0 : (0 : Int32).toInt = ((0 : Nat) : Int) := by decide
  unfold X_write_j64 at hx
  rw [if_pos ca] at hx
  obtain ⟨q11, e11, hx⟩ := oi_bd hx
  unfold Wri_takePlain at e11
  obtain ⟨b1, eb1, e11⟩ := oi_bd e11
  have Wb := wb_begin (s := s) (bi := bi) hf eb1 hm
  subst ca
  obtain ⟨W', Fl', L', b', w, o1, o2, o3, o4, o5, _⟩ := pw_out hf It_ IP T Iw Is Ils Ile Irf hc hSg hn h8 V hG fu fu 0 0 W Fl L b1 s rd li ne en be lf tu fo op ki co wd sca lk rp ba ea pa bi fk fw fs fb k0 (Nat.zero_le _) S Wb (by rw [hm]; decide) e11 h
  obtain ⟨b2, ee, o1⟩ := oi_bd o1
  cases o1
  obtain ⟨q12, eq, hx⟩ := oi_bd hx
  have eq : some ((Bits_length b2 + 7) / 8) = some q12 := eq
  have eq2 := Option.some.inj eq
  cases hx
  unfold Mod_write_j134 at o2
  rw [if_pos rfl] at o2
  obtain ⟨g1, g2, g3⟩ := end_ok (f := 66) (if_pos rfl).symm (by omega) o4 o3 (by omega) ee o2
  exact ⟨Or.inl ⟨rfl, g1, eq2.symm.trans g2⟩, fun _ => g3⟩
-- PACKED
set_option maxHeartbeats 8000000 in
theorem w_packed {fu M : Nat} {t : S_Tab} {P : S_Prog} {u : Int32} {th sc rf wi ls le : Nat → Int32} {va : Nat → Int64} (hf : 12000 ≤ fu) (It_ : I_Tab t) (IP : I_Prog P) (T : TbR t u th sc rf wi ls le) (Iw : A_Mwidths wi) (Is : A_Mscales sc) (Ils : A_Mlists ls) (Ile : A_Mlengths le) (Irf : Rfb rf) (hc : CompOK fu th sc wi ls le u) (hSg : Sg (It (Tab_listed t) (zT t) (Prog_descriptors P) (Prog_bodyEnds P) 64) M 128 (128 + zT t 16) 0 (Prog_size P).toInt.toNat) {N8 : Nat} {VAL : Nat → Nat → Int64} {X : S_X} {W : S_Walk} {Fl : S_Fld} {L : S_Lps} {Wr : S_Wri} {wb : S_Bits} {a0 a1 : Int32} {s z : S_Mo} {rd : Nat → Int64} {li ne en be lf tu fo op ki co wd sca lk rp : Nat → Int32} {ba : Nat → Int64} {ea pa : Nat → Int32} {bi ma fk fw fs : Nat → Int32} {fb : Nat → Int64} {R : A26} {Q : Int32 × Int32 × S_X × S_Prog × S_Walk × S_Fld × S_Lps × S_Bits} (ca : ¬ a1 = 0) (hn : a0.toInt = (N8 : Int)) (h1 : 1 ≤ N8) (h8 : N8 ≤ 8) (V : RwR VAL va) (hG : ∀ j, j < N8 → Gd fu u th sc rf wi ls le va j) (S : WS u z s fo op wd ea pa) (hm : (Mo_many s).toInt = 0) (hx : (o_bd (X_checkAlike fu VAL t P a0 X W Fl L) fun q4 => (if q4.1 = 0 then some ((1, 0, q4.2.1, P, q4.2.2.1, q4.2.2.2.1, q4.2.2.2.2, wb)) else X_write_j64 fu VAL t Wr a0 a1 q4.2.1 P q4.2.2.1 q4.2.2.2.1 q4.2.2.2.2 wb)) = some Q) (h : Mod_write_L44 fu th sc rf wi ls le va a0 a1 ma (fun zMo zMread zMlist zMnext zMend zMbegin zMleft zMturn zMfoundOps zMops zMkind zMcode zMwidth zMscale zMlink zMrepeat zMbase zMelementAt zMpointAt zMbits zMfirstKind zMfirstWidth zMfirstScale zMfirstBase => Mod_write_j134 fu th sc rf wi ls le va a0 a1 zMo zMread zMlist zMnext zMend zMbegin zMleft zMturn zMfoundOps zMops zMkind zMcode zMwidth zMscale zMlink zMrepeat zMbase zMelementAt zMpointAt zMbits ma zMfirstKind zMfirstWidth zMfirstScale zMfirstBase) fu 0 s rd li ne en be lf tu fo op ki co wd sca lk rp ba ea pa bi fk fw fs fb = some R) : ((Q.1 = 0 ∧ Mo_thrown R.2.1 = 0 ∧ Q.2.1 = R.1) ∨ (Q.1 = 1 ∧ Mo_thrown R.2.1 = 1)) ∧ (MdR wb z ma → MdR Q.2.2.2.2.2.2.2 R.2.1 R.2.2.2.2.2.2.2.2.2.2.2.2.2.2.2.2.2.2.2.2.2.1) := by
  have k0 : (0 : Int32).toInt = ((0 : Nat) : Int) := by decide
  have k1 : (1 : Int32).toInt = ((1 : Nat) : Int) := by decide
  obtain ⟨q4, e4, hx⟩ := oi_bd hx
  unfold X_checkAlike at e4
  have e4 := oe_gd e4
  obtain ⟨⟨W0, Fl0, L0⟩, e0, e4⟩ := oi_bd e4
  have hF := F0_of hf It_ IP T Iw Is Ils Ile Irf hc hSg V (hG 0 (by omega)) e0
  obtain ⟨w, o2, S', hm', hFF⟩ := rp_out hf It_ T Iw Is Ils Ile Irf hc ca hn h8 hG hF fu 0 0 s rd li ne en be lf tu fo op ki co wd sca lk rp ba ea pa bi fk fw fs fb k0 (Nat.zero_le _) S hm (fun e => absurd e (by decide)) h
  unfold Mod_write_j134 at o2
  rw [if_neg ca, if_pos S'.2.2.1] at o2
  obtain ⟨rc, ec, o2⟩ := oi_bd o2
  unfold Mod_compare at ec
  rcases cmp_L hf It_ IP T Iw Is Ils Ile Irf hc hSg hn h8 V hG e0 fu fu 1 1 _ _ _ _ _ _ _ _ _ _ _ _ _ _ _ _ _ _ _ k1 (by decide) h1 S' hm' (hFF h1) e4 ec with ⟨g1, g2, g3, g4⟩ | ⟨g1, g2, g3⟩
  · rw [g1] at hx
    have hx : X_write_j64 fu VAL t Wr a0 a1 X P W0 Fl0 L0 wb = some Q := by
      rw [if_neg (show ¬ (1 : Int32) = 0 by decide)] at hx
      exact hx
    unfold X_write_j64 at hx
    rw [if_neg ca] at hx
    obtain ⟨q13, e13, hx⟩ := oi_bd hx
    unfold Wri_takePacked at e13
    obtain ⟨b1, eb1, e13⟩ := oi_bd e13
    have e13 := oe_gd e13
    obtain ⟨⟨W3, Fl3, L3⟩, e3, e13⟩ := oi_bd e13
    have hF3 := F0_of hf It_ IP T Iw Is Ils Ile Irf hc hSg V (hG 0 (by omega)) e3
    rw [if_pos g2.2.2.1] at o2
    obtain ⟨r, er, o2⟩ := oi_bd o2
    obtain ⟨r1, r2, r3, r4, r5, r6, r7, rK, _, _⟩ := walk_ok hf It_ T Iw Is Ils Ile Irf hc g2 k0 (by decide) (by decide) er
    obtain ⟨f1, f2⟩ := hG 0 (by omega) _ _ _ _ _ _ _ _ _ _ _ _ _ _ _ _ _ _ _ _ _ r g2.1 g2.2.1 g2.2.2.1 k0 er
    have E0 := hF _ _ _ _ _ _ _ _ _ _ _ _ _ _ _ _ _ _ _ _ _ r g2.1 g2.2.1 g2.2.2.1 k0 er
    have E3 := hF3 _ _ _ _ _ _ _ _ _ _ _ _ _ _ _ _ _ _ _ _ _ r g2.1 g2.2.1 g2.2.2.1 k0 er
    obtain ⟨N, hN⟩ : ∃ N : Nat, (Mo_fields r.1).toInt = (N : Int) := ⟨(Mo_fields r.1).toInt.toNat, by omega⟩
    obtain ⟨d1, d2, d3, d4⟩ := E3
    obtain ⟨c1, c2, c3, c4⟩ := E0
    have FP : FPK Fl3 VAL N N8 r.2.2.2.2.2.2.2.2.2.2.1 r.2.2.2.2.2.2.2.2.2.2.2.2.1 r.2.2.2.2.2.2.2.2.2.2.2.2.2.2.2.2.1 := by
      refine ⟨by rw [d1]; exact hN, by omega, fun i hi => ?_⟩
      obtain ⟨y1, y2, y3, y4, y5, y6, y7, y8, y9, y10⟩ := d4 i (by omega)
      obtain ⟨x1, x2, x3, x4, x5, x6, x7, x8, x9, x10⟩ := c4 i (by omega)
      have wr := A_Mwidth_at r5 i
      refine ⟨y1, y3, y5, y8, ⟨y10, wr.2⟩, y9, fun j hj => ?_⟩
      by_cases cj : j = 0
      · rw [cj]
        obtain ⟨z1, z2⟩ := f2 i (by omega)
        rw [← V 0 i (by decide) (by omega)] at z1 z2
        exact ⟨z1, z2⟩
      · obtain ⟨z1, z2⟩ := g4 j (by omega) hj i (by rw [c1]; omega)
        rw [x1] at z1
        rw [x1, x3, x5] at z2
        exact ⟨z1, z2⟩
    unfold Mod_write_j163 at o2
    have Wb := wb_begin (s := r.1) (bi := w.2.1) hf eb1 (by rw [r3]; exact g3)
    obtain ⟨b', s', bi', p1, p2, p3, ⟨zz, p4⟩, p5⟩ := pp_L (N := N) hf hn h8 V FP fu fu 0 0 b1 r.1 w.2.1 k0 (Nat.zero_le _) Wb (by rw [r3, g3]; decide) hN f1 e13 o2
    obtain ⟨b2, ee, p1⟩ := oi_bd p1
    cases p1
    obtain ⟨q12, eq, hx⟩ := oi_bd hx
    have eq : some ((Bits_length b2 + 7) / 8) = some q12 := eq
    have eq2 := Option.some.inj eq
    cases hx
    obtain ⟨j1, j2, j3⟩ := end_ok (f := 67) (if_neg ca).symm (by omega) (by rw [p4]; exact f1) p3 p5 ee p2
    exact ⟨Or.inl ⟨rfl, j1, eq2.symm.trans j2⟩, fun _ => j3⟩
  · rw [if_pos g1] at hx
    cases hx
    have nz : ¬ Mo_fault rc.1 = 0 := fun e => g2 (by rw [e]; decide)
    rw [if_neg nz] at o2
    unfold Mod_write_j163 at o2
    have o3 := l165_stop nz o2
    obtain ⟨b1, b2, b3⟩ := w_bad g2 o3
    rw [b2, b3]
    exact ⟨Or.inr ⟨rfl, rfl⟩, fun D => MdR.keep D g3⟩
set_option maxHeartbeats 8000000 in
theorem write_core {fu : Nat} {t : S_Tab} {P : S_Prog} {th sc rf wi ls le : Nat → Int32} {va : Nat → Int64} {VAL : Nat → Nat → Int64} {X : S_X} {W : S_Walk} {Fl : S_Fld} {L : S_Lps} {Wr : S_Wri} {wb : S_Bits} {a0 a1 : Int32} {s : S_Mo} {rd : Nat → Int64} {li ne en be lf tu fo op ki co wd sca lk rp : Nat → Int32} {ba : Nat → Int64} {ea pa : Nat → Int32} {bi ma fk fw fs : Nat → Int32} {fb : Nat → Int64} {R : A26} {Q : Int32 × Int32 × S_X × S_Prog × S_Walk × S_Fld × S_Lps × S_Bits} (hf : 12000 ≤ fu) (It_ : I_Tab t) (IP : I_Prog P) (Iw : A_Mwidths wi) (Is : A_Mscales sc) (Ils : A_Mlists ls) (Ile : A_Mlengths le) (Irf : Rfb rf) (I : I_Mo s) (Ifo : A_MfoundOps fo) (Iop : A_Mops op) (Aw : A_Mwidth wd) (Ae : A_MelementAt ea) (Ap : A_MpointAt pa) (T : TbR t (Mo_used s) th sc rf wi ls le) (V : RwR VAL va) (h1 : 1 ≤ a0.toInt) (h8 : a0.toInt ≤ 8) (hx : (o_bd (X_compileAnew fu t X P) fun q2 => (if q2.1 = 0 then some ((1, 0, q2.2.1, q2.2.2, W, Fl, L, wb)) else o_bd (X_checkValues fu VAL t q2.2.2 a0 q2.2.1 W Fl L) fun q3 => (if q3.1 = 0 then some ((1, 0, q3.2.1, q2.2.2, q3.2.2.1, q3.2.2.2.1, q3.2.2.2.2, wb)) else if a1 = 0 then X_write_j64 fu VAL t Wr a0 a1 q3.2.1 q2.2.2 q3.2.2.1 q3.2.2.2.1 q3.2.2.2.2 wb else o_bd (X_checkAlike fu VAL t q2.2.2 a0 q3.2.1 q3.2.2.1 q3.2.2.2.1 q3.2.2.2.2) fun q4 => (if q4.1 = 0 then some ((1, 0, q4.2.1, q2.2.2, q4.2.2.1, q4.2.2.2.1, q4.2.2.2.2, wb)) else X_write_j64 fu VAL t Wr a0 a1 q4.2.1 q2.2.2 q4.2.2.1 q4.2.2.2.1 q4.2.2.2.2 wb)))) = some Q) (h : (o_bd (Mod_compileAll fu th sc wi ls le s li ne en be lf tu fo op) fun q5 => (Mod_write_L44 fu th sc rf wi ls le va a0 a1 ma (fun zMo zMread zMlist zMnext zMend zMbegin zMleft zMturn zMfoundOps zMops zMkind zMcode zMwidth zMscale zMlink zMrepeat zMbase zMelementAt zMpointAt zMbits zMfirstKind zMfirstWidth zMfirstScale zMfirstBase => Mod_write_j134 fu th sc rf wi ls le va a0 a1 zMo zMread zMlist zMnext zMend zMbegin zMleft zMturn zMfoundOps zMops zMkind zMcode zMwidth zMscale zMlink zMrepeat zMbase zMelementAt zMpointAt zMbits ma zMfirstKind zMfirstWidth zMfirstScale zMfirstBase) fu 0 (Mo_set_many q5.1 0) rd q5.2.1 q5.2.2.1 q5.2.2.2.1 q5.2.2.2.2.1 q5.2.2.2.2.2.1 q5.2.2.2.2.2.2.1 q5.2.2.2.2.2.2.2.1 q5.2.2.2.2.2.2.2.2 ki co wd sca lk rp ba ea pa bi fk fw fs fb)) = some R) : ((Q.1 = 0 ∧ Mo_thrown R.2.1 = 0 ∧ Q.2.1 = R.1) ∨ (Q.1 = 1 ∧ Mo_thrown R.2.1 = 1)) ∧ (MdR wb s ma → MdR Q.2.2.2.2.2.2.2 R.2.1 R.2.2.2.2.2.2.2.2.2.2.2.2.2.2.2.2.2.2.2.2.2.1) := by
  obtain ⟨N8, hn⟩ : ∃ N8 : Nat, a0.toInt = (N8 : Int) := ⟨a0.toInt.toNat, by omega⟩
  have k0 : (0 : Int32).toInt = ((0 : Nat) : Int) := by decide
  obtain ⟨r9, e9, h⟩ := oi_bd h
  obtain ⟨P', r9', eb, ec, ce⟩ := c_compile (P := P) (li := li) (ne := ne) (en := en) (be := be) (lf := lf) (tu := tu) (fo := fo) (op := op) hf It_ I Ile T
  rw [e9] at ec
  cases ec
  obtain ⟨r9', ec, p1, p2, p3, p4, p5, p6⟩ := t_Mod_compileAll (li := li) (ne := ne) (en := en) (be := be) (lf := lf) (tu := tu) hf Iw Is Ils Ile I Ifo Iop
  rw [e9] at ec
  cases ec
  have IP' : I_Prog P' := by
    obtain ⟨P2, e2, hP2⟩ := t_Prog_build (fu := fu) (sTab := t) (sProg := P) hf It_ IP
    rw [eb] at e2
    cases e2
    exact hP2
  have hK : KMd (Mo_set_many r9.1 0) s := ⟨p2.2.2.2.2.1, p2.2.2.2.2.2.1, p2.2.2.2.2.2.2.1, p2.2.2.2.2.2.2.2.1⟩
  obtain ⟨q2, e2, hx⟩ := oi_bd hx
  unfold X_compileAnew at e2
  rw [bd_s eb] at e2
  obtain ⟨X2, _, e2⟩ := oi_bd e2
  rcases ce with ⟨c1, c2, _⟩ | ⟨c1, c2⟩
  · rw [if_pos c1] at e2
    cases e2
    dsimp only at hx
    rw [if_neg (show ¬ (1 : Int32) = 0 by decide)] at hx
    obtain ⟨q3, e3, hx⟩ := oi_bd hx
    unfold X_checkValues at e3
    obtain ⟨M, hSg⟩ := cp_all hf It_ IP eb c1
    have hc := p6 c2
    have S : WS (Mo_used s) s (Mo_set_many r9.1 0) r9.2.2.2.2.2.2.2.1 r9.2.2.2.2.2.2.2.2 wd ea pa := ⟨⟨I_Mo_set_many p1 (by decide), p4, p5, Aw, Ae, Ap⟩, p2.1, c2, hK⟩
    rcases chk_L hf It_ IP' T Iw Is Ils Ile Irf hc hSg hn (by omega) V fu 0 0 W Fl L k0 (Nat.zero_le _) e3 with ⟨g1, g2, g3⟩ | ⟨g1, j, _, j2, j3, j4⟩
    · have hG : ∀ j, j < N8 → Gd fu (Mo_used s) th sc rf wi ls le va j := fun j hj => g3 j (Nat.zero_le _) hj
      rw [if_neg (show ¬ q3.1 = 0 by rw [g1]; decide)] at hx
      by_cases ca : a1 = 0
      · rw [if_pos ca] at hx
        exact w_plain hf It_ IP' T Iw Is Ils Ile Irf hc hSg ca hn (by omega) (by omega) V hG S (by show (0 : Int32).toInt = 0; decide) hx h
      · rw [if_neg ca] at hx
        exact w_packed hf It_ IP' T Iw Is Ils Ile Irf hc hSg ca hn (by omega) (by omega) V hG S (by show (0 : Int32).toInt = 0; decide) hx h
    · rw [if_pos g1] at hx
      cases hx
      obtain ⟨w, w1, w2, w3⟩ := wr_bad hf It_ T Iw Is Ils Ile Irf hc hn (by omega) j2 j3 (fun i hi => j4 i (Nat.zero_le _) hi) fu 0 0 (Mo_set_many r9.1 0) rd r9.2.1 r9.2.2.1 r9.2.2.2.1 r9.2.2.2.2.1 r9.2.2.2.2.2.1 r9.2.2.2.2.2.2.1 r9.2.2.2.2.2.2.2.1 r9.2.2.2.2.2.2.2.2 ki co wd sca lk rp ba ea pa bi fk fw fs fb k0 (Nat.zero_le _) S (by show 0 ≤ (0 : Int32).toInt; decide) (by show (0 : Int32).toInt ≤ _; decide) h
      obtain ⟨b2, b3⟩ := j134_bad w2 w1
      rw [b2, b3]
      exact ⟨Or.inr ⟨rfl, rfl⟩, fun D => MdR.keep D w3⟩
  · rw [if_neg c1] at e2
    cases e2
    dsimp only at hx
    rw [if_pos rfl] at hx
    cases hx
    have nz : ¬ Mo_fault (Mo_set_many r9.1 0) = 0 := c2
    have nz2 : ¬ Mo_fault (Mo_set_many r9.1 0) ≤ 0 := by
      show ¬ Mo_fault r9.1 ≤ 0
      rw [i_le]
      rw [i_eq] at c2
      have z : (0 : Int32).toInt = 0 := by decide
      omega
    have w1 := wr_stop (Or.inr nz) h
    obtain ⟨b2, b3⟩ := j134_bad nz2 w1
    rw [b2, b3]
    exact ⟨Or.inr ⟨rfl, rfl⟩, fun D => MdR.keep D hK⟩
set_option maxHeartbeats 8000000 in
theorem write_both {fu : Nat} {t : S_Tab} {P : S_Prog} {th sc rf wi ls le : Nat → Int32} {va : Nat → Int64} {VAL : Nat → Nat → Int64} {X : S_X} {W : S_Walk} {Fl : S_Fld} {L : S_Lps} {Wr : S_Wri} {wb : S_Bits} {a0 a1 : Int32} {s : S_Mo} {rd : Nat → Int64} {li ne en be lf tu fo op ki co wd sca lk rp : Nat → Int32} {ba : Nat → Int64} {ea pa : Nat → Int32} {bi ma fk fw fs : Nat → Int32} {fb : Nat → Int64} {R : A26} {Q : Int32 × Int32 × S_X × S_Prog × S_Walk × S_Fld × S_Lps × S_Bits} (hf : 12000 ≤ fu) (It_ : I_Tab t) (IP : I_Prog P) (Iw : A_Mwidths wi) (Is : A_Mscales sc) (Ils : A_Mlists ls) (Ile : A_Mlengths le) (Irf : Rfb rf) (I : I_Mo s) (Ifo : A_MfoundOps fo) (Iop : A_Mops op) (Aw : A_Mwidth wd) (Ae : A_MelementAt ea) (Ap : A_MpointAt pa) (T : TbR t (Mo_used s) th sc rf wi ls le) (V : RwR VAL va) (hx : X_write fu VAL t Wr a0 a1 X P W Fl L wb = some Q) (h : Mod_write fu th sc rf wi ls le va a0 a1 s rd li ne en be lf tu fo op ki co wd sca lk rp ba ea pa bi ma fk fw fs fb = some R) : ((Q.1 = 0 ∧ Mo_thrown R.2.1 = 0 ∧ Q.2.1 = R.1) ∨ (Q.1 = 1 ∧ Mo_thrown R.2.1 = 1)) ∧ (MdR wb s ma → MdR Q.2.2.2.2.2.2.2 R.2.1 R.2.2.2.2.2.2.2.2.2.2.2.2.2.2.2.2.2.2.2.2.2.1) := by
  have k1 : (1 : Int32).toInt = 1 := by decide
  have k8 : (8 : Int32).toInt = 8 := by decide
  unfold X_write at hx
  obtain ⟨q1, _, hx⟩ := oi_bd hx
  unfold Mod_write at h
  obtain ⟨s1, e1, h⟩ := oi_bd h
  have e1 : some (Mo_set_place (Mo_set_fault s 0) (-1)) = some s1 := e1
  have es := Option.some.inj e1
  have I1 : I_Mo s1 := by
    rw [← es]
    exact I_Mo_set_place (I_Mo_set_fault I)
  have u1 : Mo_used s1 = Mo_used s := by rw [← es]
  have K1 : KMd s1 s := by
    rw [← es]
    exact ⟨rfl, rfl, rfl, rfl⟩
  clear es e1
  have badj : Mod_write_j16 fu th sc rf wi ls le va a0 a1 s1 rd li ne en be lf tu fo op ki co wd sca lk rp ba ea pa bi ma fk fw fs fb = some R → Mo_thrown R.2.1 = 1 ∧ (MdR wb s ma → MdR wb R.2.1 R.2.2.2.2.2.2.2.2.2.2.2.2.2.2.2.2.2.2.2.2.2.1) := by
    intro g
    unfold Mod_write_j16 Mod_write_j21 o_lt at g
    dsimp only at g
    have c : ¬ Mo_thrown (Mo_set_thrown s1 1) ≤ 0 := by
      show ¬ (1 : Int32) ≤ 0
      decide
    rw [if_neg c] at g
    cases g
    exact ⟨rfl, fun D => MdR.keep (D.keep K1) (s' := Mo_set_thrown s1 1) ⟨rfl, rfl, rfl, rfl⟩⟩
  by_cases c1 : a0 < 1
  · rw [if_pos c1] at hx h
    cases hx
    obtain ⟨b1, b2⟩ := badj h
    exact ⟨Or.inr ⟨rfl, b1⟩, b2⟩
  · rw [if_neg c1] at hx h
    by_cases c2 : a0 ≤ 8
    · rw [if_pos c2] at hx h
      unfold Mod_write_j21 o_lt at h
      dsimp only at h
      have c : Mo_thrown (Mo_set_thrown s1 0) ≤ 0 := by
        show (0 : Int32) ≤ 0
        decide
      rw [if_pos c] at h
      rw [i_lt, k1] at c1
      rw [i_le, k8] at c2
      obtain ⟨g1, g2⟩ := write_core (s := Mo_set_thrown s1 0) hf It_ IP Iw Is Ils Ile Irf (I_Mo_set_thrown I1) Ifo Iop Aw Ae Ap (by show TbR t (Mo_used s1) th sc rf wi ls le; rw [u1]; exact T) V (by omega) c2 hx h
      exact ⟨g1, fun D => g2 (MdR.keep (D.keep K1) (s' := Mo_set_thrown s1 0) ⟨rfl, rfl, rfl, rfl⟩)⟩
    · rw [if_neg c2] at hx h
      cases hx
      obtain ⟨b1, b2⟩ := badj h
      exact ⟨Or.inr ⟨rfl, b1⟩, b2⟩
