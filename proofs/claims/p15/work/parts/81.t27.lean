theorem t_Mod_write {fu : Nat} {th sc rf wi ls le : Nat → Int32} {va : Nat → Int64} {a0 a1 : Int32} {s : S_Mo} {rd : Nat → Int64} {li ne en be lf tu fo op ki co wd sca lk rp : Nat → Int32} {ba : Nat → Int64} {ea pa bi ma fk fw fs : Nat → Int32} {fb : Nat → Int64} (hf : 45000 ≤ fu) (It : A_Mthere th) (Is : A_Mscales sc) (Iw : A_Mwidths wi) (Ils : A_Mlists ls) (Ile : A_Mlengths le) (I : I_Mo s) (Ifo : A_MfoundOps fo) (Iop : A_Mops op) (Aw : A_Mwidth wd) (Ae : A_MelementAt ea) (Ap : A_MpointAt pa) : So (Mod_write fu th sc rf wi ls le va a0 a1 s rd li ne en be lf tu fo op ki co wd sca lk rp ba ea pa bi ma fk fw fs fb) (fun r => I_Mo r.2.1 ∧ A_MfoundOps r.2.2.2.2.2.2.2.2.2.1 ∧ A_Mops r.2.2.2.2.2.2.2.2.2.2.1 ∧ A_Mwidth r.2.2.2.2.2.2.2.2.2.2.2.2.2.1 ∧ A_MelementAt r.2.2.2.2.2.2.2.2.2.2.2.2.2.2.2.2.2.2.1 ∧ A_MpointAt r.2.2.2.2.2.2.2.2.2.2.2.2.2.2.2.2.2.2.2.1 ∧ ((Mo_used r.2.1).toInt = (Mo_used s).toInt) ∧ ((Mo_taped r.2.1).toInt = (Mo_taped s).toInt)) := So.imp (t_wr_all hf Is Iw Ils Ile ⟨I, Ifo, Iop, Aw, Ae, Ap⟩) fun r h => ⟨h.1.1, h.1.2.1, h.1.2.2.1, h.1.2.2.2.1, h.1.2.2.2.2.1, h.1.2.2.2.2.2, congrArg Int32.toInt h.2.1, congrArg Int32.toInt h.2.2.1⟩
theorem t_Mod_read {fu : Nat} {th sc rf wi ls le tp : Nat → Int32} {s : S_Mo} {va rd : Nat → Int64} {li ne en be lf tu fo op ki co wd sca lk rp : Nat → Int32} {ba : Nat → Int64} {ea pa bi : Nat → Int32} (hf : 12000 ≤ fu) (It : A_Mthere th) (Is : A_Mscales sc) (Iw : A_Mwidths wi) (Ils : A_Mlists ls) (Ile : A_Mlengths le) (Itp : A_Mtape tp) (I : I_Mo s) (Ifo : A_MfoundOps fo) (Iop : A_Mops op) (Aw : A_Mwidth wd) (Ae : A_MelementAt ea) (Ap : A_MpointAt pa) : So (Mod_read fu th sc rf wi ls le tp s va rd li ne en be lf tu fo op ki co wd sca lk rp ba ea pa bi) (fun r => I_Mo r.2.1 ∧ A_MfoundOps r.2.2.2.2.2.2.2.2.2.2.1 ∧ A_Mops r.2.2.2.2.2.2.2.2.2.2.2.1 ∧ A_Mwidth r.2.2.2.2.2.2.2.2.2.2.2.2.2.2.1 ∧ A_MelementAt r.2.2.2.2.2.2.2.2.2.2.2.2.2.2.2.2.2.2.2.1 ∧ A_MpointAt r.2.2.2.2.2.2.2.2.2.2.2.2.2.2.2.2.2.2.2.2.1 ∧ ((Mo_used r.2.1).toInt = (Mo_used s).toInt) ∧ ((Mo_taped r.2.1).toInt = 0)) := So.imp (t_rd_all hf Is Iw Ils Ile Itp ⟨I, Ifo, Iop, Aw, Ae, Ap⟩) fun r h => ⟨h.1.1, h.1.2.1, h.1.2.2.1, h.1.2.2.2.1, h.1.2.2.2.2.1, h.1.2.2.2.2.2, congrArg Int32.toInt h.2.1, congrArg Int32.toInt h.2.2.1⟩
theorem t_Mod_pack {fu : Nat} {po pk cf cs : Nat → Int64} {cut ends : Nat → Int32} {a0 : Int32} {s : S_Mo} (hf : 12000 ≤ fu) (I : I_Mo s) : So (Mod_pack fu po a0 s pk cf cs cut ends) (fun r => I_Mo r.2.1 ∧ ((Mo_used r.2.1).toInt = (Mo_used s).toInt) ∧ ((Mo_taped r.2.1).toInt = (Mo_taped s).toInt)) := So.imp (t_pk_all hf I) fun r h => ⟨h.1, congrArg Int32.toInt h.2.1, congrArg Int32.toInt h.2.2⟩
-- the beginnings
theorem t_Tab_init : So Tab_init (fun r => I_Tab r ∧ (∀ j, Tab_widths r j = 0) ∧ (∀ j, Tab_sizes r j = 0)) := So.one ⟨⟨fun _ => (by decide : (0 : Int) ≤ (0 : Int32).toInt ∧ (0 : Int32).toInt ≤ 32), fun _ => ⟨(by decide : (0 : Int) ≤ (0 : Int32).toInt), (by decide : (0 : Int32).toInt ≤ 24), fun _ => (by decide : (0 : Int32).toInt ≤ 8)⟩, (by decide : (0 : Int) ≤ (3 : Int32).toInt ∧ (3 : Int32).toInt ≤ 3)⟩, fun _ => rfl, fun _ => rfl⟩
theorem t_Prog_init : So Prog_init I_Prog := So.one ⟨(by decide : (0 : Int) ≤ (0 : Int32).toInt ∧ (0 : Int32).toInt ≤ 1000), fun _ => (by decide : (0 : Int) ≤ (0 : Int32).toInt ∧ (0 : Int32).toInt ≤ 152), fun _ => (by decide : (0 : Int) ≤ (0 : Int32).toInt ∧ (0 : Int32).toInt ≤ 152), fun _ => (by decide : (-1 : Int) ≤ (0 : Int32).toInt ∧ (0 : Int32).toInt ≤ 999), (by decide : (0 : Int) ≤ (0 : Int32).toInt ∧ (0 : Int32).toInt ≤ 64)⟩
theorem t_Walk_init : So Walk_init (fun r => I_Walk r.1 ∧ I_Fld r.2.1 ∧ I_Lps r.2.2) := So.one ⟨⟨fun _ => (by decide : (-80 : Int) ≤ (0 : Int32).toInt ∧ (0 : Int32).toInt ≤ 87), fun _ => (by decide : (0 : Int) ≤ (0 : Int32).toInt ∧ (0 : Int32).toInt ≤ 99), (by decide : (0 : Int) ≤ (0 : Int32).toInt ∧ (0 : Int32).toInt ≤ 100), fun _ => (by decide : (0 : Int) ≤ (0 : Int32).toInt ∧ (0 : Int32).toInt ≤ 99), (by decide : (0 : Int) ≤ (0 : Int32).toInt ∧ (0 : Int32).toInt ≤ 16), (by decide : (0 : Int) ≤ (0 : Int32).toInt ∧ (0 : Int32).toInt ≤ 16), (by decide : (0 : Int) ≤ (0 : Int32).toInt ∧ (0 : Int32).toInt ≤ 1000)⟩, ⟨fun _ => (by decide : (-100 : Int) ≤ (0 : Int32).toInt ∧ (0 : Int32).toInt ≤ 120), fun _ => (by decide : (-1 : Int) ≤ (0 : Int32).toInt ∧ (0 : Int32).toInt ≤ 101), (by decide : (0 : Int) ≤ (0 : Int32).toInt ∧ (0 : Int32).toInt ≤ 100)⟩, ⟨fun _ => (by decide : (0 : Int) ≤ (0 : Int32).toInt ∧ (0 : Int32).toInt ≤ 1000), (by decide : (0 : Int) ≤ (0 : Int32).toInt ∧ (0 : Int32).toInt ≤ 64)⟩⟩
theorem t_Wri_init : So Wri_init (fun r => I_Bits r.2) := So.one (by show I_Bits ((fun (_ : Nat) => (0 : Int32)), (0 : Int32)); exact (by decide : 0 ≤ (0 : Int32).toInt ∧ (0 : Int32).toInt ≤ 29432))
theorem t_Bits_init_1000 : So Bits_init_1000 (fun r => I_Bits r ∧ (Bits_length r).toInt ≤ 8000 ∧ Bits_length r = 0) := So.one ⟨(by decide : 0 ≤ (0 : Int32).toInt ∧ (0 : Int32).toInt ≤ 29432), (by decide : (0 : Int32).toInt ≤ 8000), rfl⟩
theorem t_Grd_init {fu : Nat} (hf : 12000 ≤ fu) : So (Grd_init fu) I_Grd := by
  unfold Grd_init
  have I0 : I_Grd (((fun (_ : Nat) => (0 : Int64)), (fun (_ : Nat) => (0 : Int64)), (fun (_ : Nat) => (0 : Int32)), (0 : Int32), (((-1)) : Int32), (((-1)) : Int32), (fun (_ : Nat) => (0 : Int64)), (fun (_ : Nat) => (0 : Int32)), (fun (_ : Nat) => (0 : Int32))) : S_Grd) := ⟨(by decide : (0 : Int) ≤ (0 : Int32).toInt ∧ (0 : Int32).toInt ≤ 64), (by decide : (-1 : Int) ≤ ((-1) : Int32).toInt ∧ ((-1) : Int32).toInt ≤ 64), fun _ => (by decide : (0 : Int) ≤ (0 : Int32).toInt ∧ (0 : Int32).toInt ≤ 64)⟩
  refine So.lt (So.bd (t_Arr_fill_aJJ hf (by decide)) fun q1 _ => So.bd (t_Arr_fill_aJJ hf (by decide)) fun q2 _ => So.one ?_)
  exact I_Grd_set_packed (I_Grd_set_points I0)
abbrev X13 : Type := S_X × S_Tab × S_Prog × S_Walk × S_Fld × S_Lps × S_Wri × S_Bits × S_Bits × S_Rea × (Nat → Nat → Int64) × S_Grd × (Nat → Nat → Int64)
def XI (r : X13) : Prop := I_Tab r.2.1 ∧ I_Prog r.2.2.1 ∧ I_Walk r.2.2.2.1 ∧ I_Fld r.2.2.2.2.1 ∧ I_Lps r.2.2.2.2.2.1 ∧ I_Bits r.2.2.2.2.2.2.2.1 ∧ I_Bits r.2.2.2.2.2.2.2.2.1 ∧ (Bits_length r.2.2.2.2.2.2.2.2.1).toInt ≤ 8000 ∧ I_Grd r.2.2.2.2.2.2.2.2.2.2.2.1 ∧ (∀ j, Tab_widths r.2.1 j = 0) ∧ (∀ j, Tab_sizes r.2.1 j = 0) ∧ Bits_length r.2.2.2.2.2.2.2.2.1 = 0
theorem t_xi_L {fu : Nat} {sX : S_X} {sTab : S_Tab} {sProg : S_Prog} {sWalk : S_Walk} {sFld : S_Fld} {sLps : S_Lps} {sWri : S_Wri} {sWB sTP : S_Bits} {sRea : S_Rea} {sRR : Nat → Nat → Int64} {sGrd : S_Grd} {ke : (Nat → Nat → Int64) → Option X13} {P : X13 → Prop} (hf : 12000 ≤ fu) (hke : ∀ m, So (ke m) P) : ∀ (n k : Nat) (x : Int32) (va : Nat → Nat → Int64), x.toInt = (k : Int) → k ≤ 8 → 8 - k < n → So (X_init_L114 fu sX sTab sProg sWalk sFld sLps sWri sWB sTP sRea sRR sGrd ke n x va) P
  | 0, k, x, va, _, _, h => absurd h (by omega)
  | n + 1, k, x, va, hx, hk, hn => by
    rw [X_init_L114]
    have k1 : (1 : Int32).toInt = 1 := by decide
    have k8 : (8 : Int32).toInt = 8 := by decide
    refine So.ite (fun c => hke _) (fun c => ?_)
    rw [i_le] at c
    have e1 := i_add (a := x) (b := 1) (by omega) (by omega)
    refine So.gd (i_in.mpr (by omega)) (So.bd (t_Arr_fill_aJJ hf (by decide)) fun q _ => ?_)
    exact t_xi_L hf hke n (k + 1) (x + 1) _ (by omega) (by omega) (by omega)
theorem t_X_init {fu : Nat} (hf : 12000 ≤ fu) : So (X_init fu) XI := by
  unfold X_init
  refine So.bd t_Tab_init fun q1 h1 => So.bd t_Prog_init fun q2 h2 => So.bd t_Walk_init fun q3 h3 => So.bd t_Wri_init fun q4 h4 => So.bd t_Bits_init_1000 fun q5 h5 => ?_
  have hre : So Rea_init (fun _ => True) := So.one trivial
  refine So.bd hre fun q6 _ => So.bd (t_Grd_init hf) fun q7 h7 => So.lt (So.lt ?_)
  refine t_xi_L hf (fun m => ?_) fu 0 0 _ rfl (by omega) (by omega)
  unfold X_init_j138
  exact So.lt (So.lt (So.one ⟨h1.1, h2, h3.1, h3.2.1, h3.2.2, h4, h5.1, h5.2.1, h7, h1.2.1, h1.2.2, h5.2.2⟩))
abbrev M39 : Type := S_Mo × (Nat → Int32) × (Nat → Int32) × (Nat → Int32) × (Nat → Int32) × (Nat → Int32) × (Nat → Int32) × (Nat → Int64) × (Nat → Int64) × (Nat → Int32) × (Nat → Int32) × (Nat → Int32) × (Nat → Int32) × (Nat → Int32) × (Nat → Int32) × (Nat → Int32) × (Nat → Int32) × (Nat → Int32) × (Nat → Int32) × (Nat → Int32) × (Nat → Int32) × (Nat → Int32) × (Nat → Int32) × (Nat → Int64) × (Nat → Int32) × (Nat → Int32) × (Nat → Int32) × (Nat → Int32) × (Nat → Int32) × (Nat → Int32) × (Nat → Int32) × (Nat → Int32) × (Nat → Int64) × (Nat → Int64) × (Nat → Int64) × (Nat → Int64) × (Nat → Int64) × (Nat → Int32) × (Nat → Int32)
def MI (r : M39) : Prop := I_Mo r.1 ∧ A_Mthere r.2.1 ∧ A_Mscales r.2.2.1 ∧ A_Mwidths r.2.2.2.2.1 ∧ A_Mlists r.2.2.2.2.2.1 ∧ A_Mlengths r.2.2.2.2.2.2.1 ∧ A_MfoundOps r.2.2.2.2.2.2.2.2.2.2.2.2.2.2.2.1 ∧ A_Mops r.2.2.2.2.2.2.2.2.2.2.2.2.2.2.2.2.1 ∧ A_Mwidth r.2.2.2.2.2.2.2.2.2.2.2.2.2.2.2.2.2.2.2.1 ∧ A_MelementAt r.2.2.2.2.2.2.2.2.2.2.2.2.2.2.2.2.2.2.2.2.2.2.2.2.1 ∧ A_MpointAt r.2.2.2.2.2.2.2.2.2.2.2.2.2.2.2.2.2.2.2.2.2.2.2.2.2.1 ∧ A_Mtape r.2.2.2.2.2.2.2.2.2.2.2.2.2.2.2.2.2.2.2.2.2.2.2.2.2.2.2.2.1 ∧ (∀ j, r.2.1 j = 0) ∧ (∀ j, r.2.2.2.2.2.2.1 j = 0) ∧ Mo_taped r.1 = 0
theorem t_mi_L357 {fu : Nat} {s : S_Mo} {th : Nat → Int32} {sc : Nat → Int32} {rf : Nat → Int32} {wi : Nat → Int32} {ls : Nat → Int32} {le : Nat → Int32} {va : Nat → Int64} {rd : Nat → Int64} {li : Nat → Int32} {ne : Nat → Int32} {en : Nat → Int32} {be : Nat → Int32} {lf : Nat → Int32} {tu : Nat → Int32} {fo : Nat → Int32} {op : Nat → Int32} {ki : Nat → Int32} {co : Nat → Int32} {wd : Nat → Int32} {sca : Nat → Int32} {lk : Nat → Int32} {rp : Nat → Int32} {ba : Nat → Int64} {ea : Nat → Int32} {pa : Nat → Int32} {bi : Nat → Int32} {ma : Nat → Int32} {tp : Nat → Int32} {fk : Nat → Int32} {fw : Nat → Int32} {fs : Nat → Int32} {fb : Nat → Int64} {cf : Nat → Int64} {cs : Nat → Int64} {cut : Nat → Int32} {ends : Nat → Int32} (H0 : I_Mo s) (H1 : A_Mthere th) (H2 : A_Mscales sc) (H3 : A_Mwidths wi) (H4 : A_Mlists ls) (H5 : A_Mlengths le) (H6 : A_MfoundOps fo) (H7 : A_Mops op) (H8 : A_Mwidth wd) (H9 : A_MelementAt ea) (H10 : A_MpointAt pa) (H11 : A_Mtape tp) (H12 : ∀ j, th j = 0) (H13 : ∀ j, le j = 0) (H14 : Mo_taped s = 0) : ∀ (n k : Nat) (x : Int32) (po pk : Nat → Int64), x.toInt = (k : Int) → k ≤ 64 → 64 - k < n → So (Mod_init_L357 fu s th sc rf wi ls le va rd li ne en be lf tu fo op ki co wd sca lk rp ba ea pa bi ma tp fk fw fs fb cf cs cut ends n x po pk) MI
  | 0, k, x, po, pk, _, _, h => absurd h (by omega)
  | n + 1, k, x, po, pk, hx, hk, hn => by
    rw [Mod_init_L357]
    have k1 : (1 : Int32).toInt = 1 := by decide
    have k8 : (64 : Int32).toInt = 64 := by decide
    refine So.ite (fun c => So.one ⟨H0, H1, H2, H3, H4, H5, H6, H7, H8, H9, H10, H11, H12, H13, H14⟩) (fun c => ?_)
    rw [i_le] at c
    have e1 := i_add (a := x) (b := 1) (by omega) (by omega)
    refine So.gd (i_in.mpr (by omega)) (So.lt (So.gd (i_in.mpr (by omega)) (So.lt ?_)))
    exact t_mi_L357 H0 H1 H2 H3 H4 H5 H6 H7 H8 H9 H10 H11 H12 H13 H14 n (k + 1) (x + 1) _ _ (by omega) (by omega) (by omega)
theorem t_mi_L333 {fu : Nat} {s : S_Mo} {th : Nat → Int32} {sc : Nat → Int32} {rf : Nat → Int32} {wi : Nat → Int32} {ls : Nat → Int32} {le : Nat → Int32} {rd : Nat → Int64} {li : Nat → Int32} {ne : Nat → Int32} {en : Nat → Int32} {be : Nat → Int32} {lf : Nat → Int32} {tu : Nat → Int32} {fo : Nat → Int32} {op : Nat → Int32} {ki : Nat → Int32} {co : Nat → Int32} {wd : Nat → Int32} {sca : Nat → Int32} {lk : Nat → Int32} {rp : Nat → Int32} {ba : Nat → Int64} {ea : Nat → Int32} {pa : Nat → Int32} {bi : Nat → Int32} {ma : Nat → Int32} {tp : Nat → Int32} {fk : Nat → Int32} {fw : Nat → Int32} {fs : Nat → Int32} {fb : Nat → Int64} {po : Nat → Int64} {pk : Nat → Int64} {cf : Nat → Int64} {cs : Nat → Int64} {cut : Nat → Int32} {ends : Nat → Int32} {ke : (Nat → Int64) → Option M39} {P : M39 → Prop} (hke : ∀ m, So (ke m) P) : ∀ (n k : Nat) (x : Int32) (va : Nat → Int64), x.toInt = (k : Int) → k ≤ 800 → 800 - k < n → So (Mod_init_L333 fu s th sc rf wi ls le rd li ne en be lf tu fo op ki co wd sca lk rp ba ea pa bi ma tp fk fw fs fb po pk cf cs cut ends ke n x va) P
  | 0, k, x, va, _, _, h => absurd h (by omega)
  | n + 1, k, x, va, hx, hk, hn => by
    rw [Mod_init_L333]
    have k1 : (1 : Int32).toInt = 1 := by decide
    have k8 : (800 : Int32).toInt = 800 := by decide
    refine So.ite (fun c => hke _) (fun c => ?_)
    rw [i_le] at c
    have e1 := i_add (a := x) (b := 1) (by omega) (by omega)
    refine So.gd (i_in.mpr (by omega)) (So.lt ?_)
    exact t_mi_L333 hke n (k + 1) (x + 1) _ (by omega) (by omega) (by omega)
theorem t_Mod_init {fu : Nat} (hf : 12000 ≤ fu) : So (Mod_init fu) MI := by
  unfold Mod_init
  refine So.lt (So.lt (So.lt (So.lt (So.lt (So.lt (So.lt (So.lt (So.lt (So.lt (So.lt (So.lt (So.lt (So.lt (So.lt (So.lt (So.lt (So.lt (So.lt (So.lt (So.lt (So.lt (So.lt (So.lt (So.lt (So.lt (So.lt (So.lt (So.lt (So.lt (So.lt (So.lt (So.lt (So.lt (So.lt (So.lt (So.lt (So.lt (So.lt ?_))))))))))))))))))))))))))))))))))))))
  refine t_mi_L333 (fun m => ?_) fu 0 0 _ rfl (by omega) (by omega)
  unfold Mod_init_j355
  refine t_mi_L357 ?_ (fun _ => ?_) (fun _ => ?_) (fun _ => ?_) (fun _ => ?_) (fun j => ?_) (fun _ => ?_) (fun j => ?_) (fun _ => ?_) (fun _ => ?_) (fun _ => ?_) (fun _ => ?_) (fun _ => rfl) (fun _ => rfl) rfl fu 0 0 _ _ rfl (by omega) (by omega)
  · exact ⟨(by decide : (0 : Int) ≤ (3 : Int32).toInt ∧ (3 : Int32).toInt ≤ 3), (by decide : (0 : Int) ≤ (0 : Int32).toInt ∧ (0 : Int32).toInt ≤ 90), (by decide : (0 : Int) ≤ (0 : Int32).toInt ∧ (0 : Int32).toInt ≤ 100), (by decide : (0 : Int) ≤ (0 : Int32).toInt ∧ (0 : Int32).toInt ≤ 100), (by decide : (0 : Int) ≤ (0 : Int32).toInt ∧ (0 : Int32).toInt ≤ 100), (by decide : (0 : Int) ≤ (0 : Int32).toInt ∧ (0 : Int32).toInt ≤ 100), (by decide : (0 : Int) ≤ (0 : Int32).toInt ∧ (0 : Int32).toInt ≤ 7), (by decide : (0 : Int) ≤ (0 : Int32).toInt ∧ (0 : Int32).toInt ≤ 65535), (by decide : (0 : Int) ≤ (0 : Int32).toInt ∧ (0 : Int32).toInt ≤ 40000), (by decide : (0 : Int) ≤ (0 : Int32).toInt ∧ (0 : Int32).toInt ≤ 40000), (by decide : (0 : Int) ≤ (0 : Int32).toInt ∧ (0 : Int32).toInt ≤ 1000), (by decide : (0 : Int) ≤ (0 : Int32).toInt ∧ (0 : Int32).toInt ≤ 100), (by decide : (-1 : Int) ≤ ((-1) : Int32).toInt ∧ ((-1) : Int32).toInt ≤ 64), (by decide : (0 : Int) ≤ (0 : Int32).toInt ∧ (0 : Int32).toInt ≤ 64)⟩
  · exact (by decide : (0 : Int) ≤ (0 : Int32).toInt ∧ (0 : Int32).toInt ≤ 1)
  · exact (by decide : (-8 : Int) ≤ (0 : Int32).toInt ∧ (0 : Int32).toInt ≤ 8)
  · exact (by decide : (0 : Int) ≤ (0 : Int32).toInt ∧ (0 : Int32).toInt ≤ 32)
  · exact Or.inl (by decide : (0 : Int) ≤ (0 : Int32).toInt ∧ (0 : Int32).toInt ≤ 63)
  · exact ⟨(by decide : (0 : Int) ≤ (0 : Int32).toInt), (by decide : (0 : Int32).toInt ≤ 24), fun _ => (by decide : (0 : Int32).toInt ≤ 8)⟩
  · exact (by decide : (-100 : Int) ≤ (0 : Int32).toInt ∧ (0 : Int32).toInt ≤ 31)
  · exact ⟨(by decide : (-100 : Int) ≤ (0 : Int32).toInt), (by decide : (0 : Int32).toInt ≤ 31), Or.inr (by decide : (-16 : Int) ≤ (0 : Int32).toInt), Or.inr (Or.inr (by decide : (0 : Int) ≤ (0 : Int32).toInt))⟩
  · exact (by decide : (0 : Int) ≤ (0 : Int32).toInt ∧ (0 : Int32).toInt ≤ 32)
  · exact (by decide : (0 : Int) ≤ (0 : Int32).toInt ∧ (0 : Int32).toInt ≤ 99)
  · exact (by decide : (0 : Int) ≤ (0 : Int32).toInt ∧ (0 : Int32).toInt ≤ 99)
  · exact (by decide : (0 : Int) ≤ (0 : Int32).toInt ∧ (0 : Int32).toInt ≤ 255)
