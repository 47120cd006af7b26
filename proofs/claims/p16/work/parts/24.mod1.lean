def Mod_begins_j41 (x1_j41 : Int32) (t0_j41 : Int32) (t1_j41 : Int32) : Option (Int32) := if (t0_j41 - t1_j41) = 0 then some ((-100)) else if x1_j41 = 0 then some ((t0_j41 - t1_j41) - 16) else if x1_j41 = 1 then some ((t0_j41 - t1_j41) - 8) else some (t0_j41 - t1_j41)
def Mod_begins (a0 : Int32) : Option (Int32) := o_bd (Mod_operator a0) fun q1 => (if q1 = 0 then Mod_begins_j41 q1 a0 400 else if q1 = 1 then Mod_begins_j41 q1 a0 440 else if q1 = 2 then Mod_begins_j41 q1 a0 460 else Mod_begins_j41 q1 a0 480)
abbrev rm_Mod_begins : Room := { frames := 1, cells := 0, slots := 0, locals := 20 }
set_option maxHeartbeats 4000000 in
set_option maxRecDepth 100000 in
theorem c_Mod_begins (l : Launch) (D : va_G) (K : Nat → ClassId) (a0 : Int32) (r : Int32) (hf : Mod_begins a0 = some r) : mi l D K y_Mod_begins ws_Mod_begins rm_Mod_begins [.int a0] (fl []) (fl []) r := by
  refine mi_of (cc := b_Mod_begins) (maxL := 3) (own := "ObsMessagesModel") (by decide) rfl rfl (Nat.le_of_ble_eq_true rfl) ?_
  intro p e s m below meth c A ls hC hP hD hS hl
  obtain ⟨hx, hb, hml, hown, hts, hr, hlocks, hK, hF, hA⟩ := hC
  have hP : va_P D vwCl (fl []) s.heap := hP
  have hl : lv_has ls 3 [(0, .int a0)] := hl
  suffices hW : ∀ (H : Heap) (locs : List Loc), va_P D vwCl (fl []) H → va_S A s.heap H locs → W p l e rm_Mod_begins s m ([.int a0] : List Value).toArray below meth c H locs 0 0 (Qi below ([.int a0] : List Value).toArray s D K A (fl []) r) (F0 m 0 ls []) from hW s.heap [] hP hS
  clear hP hS
  intro H locs hP hS
  have J41 : ∀ (x1_j41 : Int32) (t0_j41 : Int32) (t1_j41 : Int32) (H : Heap) (locs : List Loc) (ls : Array Slot), va_P D vwCl (fl []) H → va_D A (fl []) → va_S A s.heap H locs → lv_has ls 3 [(1, .int x1_j41)] → Mod_begins_j41 x1_j41 t0_j41 t1_j41 = some r → W p l e rm_Mod_begins s m ([.int a0] : List Value).toArray below meth c H locs 0 0 (Qi below ([.int a0] : List Value).toArray s D K A (fl []) r) (F0 m 41 ls [.int t1_j41, .int t0_j41]) := by
    intro x1_j41 t0_j41 t1_j41 H locs ls hP hD hS hl hf
    refine lv_isub (pc := 41) hx hb d_Mod_begins_41 ?_
    refine lv_istore_n (lv' := [(2, .int (t0_j41 - t1_j41)), (1, .int x1_j41)]) (pc := 42) hx hb d_Mod_begins_42 rfl hl (by decide) rfl (fun ls hl => ?_)
    refine lv_iload_n (pc := 43) hx hb d_Mod_begins_43 rfl (lv_at hl 0 rfl) ?_
    refine lv_if_ne (tgt := 52) (pc := 44) hx hb d_Mod_begins_44 (by decide) (fun c7 => ?_) (fun c7 => ?_)
    · replace hf := o_f c7 hf
      refine lv_iload_n (pc := 52) hx hb d_Mod_begins_52 rfl (lv_at hl 1 rfl) ?_
      refine lv_if_ne (tgt := 63) (pc := 53) hx hb d_Mod_begins_53 (by decide) (fun c6 => ?_) (fun c6 => ?_)
      · replace hf := o_f c6 hf
        refine lv_iload_n (pc := 63) hx hb d_Mod_begins_63 rfl (lv_at hl 1 rfl) ?_
        refine lv_iconst (v := 1) (pc := 64) hx hb d_Mod_begins_64 (by decide) ?_
        refine lv_icmp_ne (tgt := 75) (pc := 65) hx hb d_Mod_begins_65 (by decide) (fun c5 => ?_) (fun c5 => ?_)
        · replace hf := o_f c5 hf
          refine lv_iload_n (pc := 75) hx hb d_Mod_begins_75 rfl (lv_at hl 0 rfl) ?_
          cases hf
          exact ret_i hx hb hr hlocks hK hP hS d_Mod_begins_76
        · replace hf := o_t c5 hf
          refine lv_iload_n (pc := 68) hx hb d_Mod_begins_68 rfl (lv_at hl 0 rfl) ?_
          refine lv_bipush (v := 8) (pc := 69) hx hb d_Mod_begins_69 (by decide) ?_
          refine lv_isub (pc := 71) hx hb d_Mod_begins_71 ?_
          refine lv_goto (tgt := 76) (pc := 72) hx hb d_Mod_begins_72 (by decide) ?_
          cases hf
          exact ret_i hx hb hr hlocks hK hP hS d_Mod_begins_76
      · replace hf := o_t c6 hf
        refine lv_iload_n (pc := 56) hx hb d_Mod_begins_56 rfl (lv_at hl 0 rfl) ?_
        refine lv_bipush (v := 16) (pc := 57) hx hb d_Mod_begins_57 (by decide) ?_
        refine lv_isub (pc := 59) hx hb d_Mod_begins_59 ?_
        refine lv_goto (tgt := 76) (pc := 60) hx hb d_Mod_begins_60 (by decide) ?_
        cases hf
        exact ret_i hx hb hr hlocks hK hP hS d_Mod_begins_76
    · replace hf := o_t c7 hf
      refine lv_bipush (v := (-100)) (pc := 47) hx hb d_Mod_begins_47 (by decide) ?_
      refine lv_goto (tgt := 76) (pc := 49) hx hb d_Mod_begins_49 (by decide) ?_
      cases hf
      exact ret_i hx hb hr hlocks hK hP hS d_Mod_begins_76
  refine lv_iload_n (pc := 0) hx hb d_Mod_begins_0 rfl (lv_at hl 0 rfl) ?_
  obtain ⟨q1, hq1, hf⟩ := o_bd_e hf
  refine fi_i (pc := 1) (va_runS (As := [.int a0]) (rest := []) ⟨hx, hb, hml, hown, hts⟩ ((c_Mod_operator l D K a0 q1 hq1) _) (cwS 1 hts (gS tw_1352 tw_1353 tw_12 tw_1354) rfl rfl rfl (by decide +kernel) ⟨by decide, by decide⟩) ⟨mPre_blind, (mPre_fl hK hF hA hP hD hS [] rfl rfl)⟩ rfl rfl hl.1 rfl (lv_room (Nat.le_of_ble_eq_true rfl)) d_Mod_begins_1 ⟨Nat.zero_le _, Nat.zero_le _⟩) hA hP hD hS [] rfl rfl (fun H locs hP hD hS => ?_)
  have hP : va_P D vwCl (fl []) H := hP
  have hD : va_D A (fl []) := hD
  refine lv_istore_n (lv' := [(1, .int q1), (0, .int a0)]) (pc := 4) hx hb d_Mod_begins_4 rfl hl (by decide) rfl (fun ls hl => ?_)
  refine lv_iload_n (pc := 5) hx hb d_Mod_begins_5 rfl (lv_at hl 1 rfl) ?_
  refine lv_iload_n (pc := 6) hx hb d_Mod_begins_6 rfl (lv_at hl 0 rfl) ?_
  refine lv_if_ne (tgt := 16) (pc := 7) hx hb d_Mod_begins_7 (by decide) (fun c4 => ?_) (fun c4 => ?_)
  · replace hf := o_f c4 hf
    refine lv_iload_n (pc := 16) hx hb d_Mod_begins_16 rfl (lv_at hl 0 rfl) ?_
    refine lv_iconst (v := 1) (pc := 17) hx hb d_Mod_begins_17 (by decide) ?_
    refine lv_icmp_ne (tgt := 27) (pc := 18) hx hb d_Mod_begins_18 (by decide) (fun c3 => ?_) (fun c3 => ?_)
    · replace hf := o_f c3 hf
      refine lv_iload_n (pc := 27) hx hb d_Mod_begins_27 rfl (lv_at hl 0 rfl) ?_
      refine lv_iconst (v := 2) (pc := 28) hx hb d_Mod_begins_28 (by decide) ?_
      refine lv_icmp_ne (tgt := 38) (pc := 29) hx hb d_Mod_begins_29 (by decide) (fun c2 => ?_) (fun c2 => ?_)
      · replace hf := o_f c2 hf
        refine lv_sipush (v := 480) (pc := 38) hx hb d_Mod_begins_38 (by decide) ?_
        exact J41 q1 a0 480 H locs ls hP hD hS (lv_sub hl [0] rfl) hf
      · replace hf := o_t c2 hf
        refine lv_sipush (v := 460) (pc := 32) hx hb d_Mod_begins_32 (by decide) ?_
        refine lv_goto (tgt := 41) (pc := 35) hx hb d_Mod_begins_35 (by decide) ?_
        exact J41 q1 a0 460 H locs ls hP hD hS (lv_sub hl [0] rfl) hf
    · replace hf := o_t c3 hf
      refine lv_sipush (v := 440) (pc := 21) hx hb d_Mod_begins_21 (by decide) ?_
      refine lv_goto (tgt := 41) (pc := 24) hx hb d_Mod_begins_24 (by decide) ?_
      exact J41 q1 a0 440 H locs ls hP hD hS (lv_sub hl [0] rfl) hf
  · replace hf := o_t c4 hf
    refine lv_sipush (v := 400) (pc := 10) hx hb d_Mod_begins_10 (by decide) ?_
    refine lv_goto (tgt := 41) (pc := 13) hx hb d_Mod_begins_13 (by decide) ?_
    exact J41 q1 a0 400 H locs ls hP hD hS (lv_sub hl [0] rfl) hf
def Mod_append_j70 (x2_j70 : Int32) (x3_j70 : Int32) (sMo_j70 : S_Mo) (sMlists_j70 : (Nat → Int32)) (sMlengths_j70 : (Nat → Int32)) : Option (Int32 × S_Mo × (Nat → Int32) × (Nat → Int32)) := if (Mo_thrown sMo_j70) ≤ 0 then o_gd (o_in x3_j70 17) (o_gd (o_in ((24 * x3_j70) + (sMlengths_j70 (x3_j70 : Int32).toNatClampNeg)) 408) (o_lt (upd sMlists_j70 ((24 * x3_j70) + (sMlengths_j70 (x3_j70 : Int32).toNatClampNeg) : Int32).toNatClampNeg x2_j70) fun sMlists_14 => (o_gd (o_in x3_j70 17) (o_gd (o_in x3_j70 17) (o_lt (upd sMlengths_j70 (x3_j70 : Int32).toNatClampNeg ((sMlengths_j70 (x3_j70 : Int32).toNatClampNeg) + 1)) fun sMlengths_17 => (o_gd (o_in x3_j70 17) (some ((sMlengths_17 (x3_j70 : Int32).toNatClampNeg, sMo_j70, sMlists_14, sMlengths_17))))))))) else some ((0, sMo_j70, sMlists_j70, sMlengths_j70))
def Mod_append_j62 (x2_j62 : Int32) (x3_j62 : Int32) (t0_j62 : Int32) (t1_j62 : Int32) (sMo_j62 : S_Mo) (sMlists_j62 : (Nat → Int32)) (sMlengths_j62 : (Nat → Int32)) : Option (Int32 × S_Mo × (Nat → Int32) × (Nat → Int32)) := if t0_j62 = t1_j62 then o_lt (Mo_set_thrown sMo_j62 2) fun sMo_10 => (Mod_append_j70 x2_j62 x3_j62 sMo_10 sMlists_j62 sMlengths_j62) else Mod_append_j70 x2_j62 x3_j62 sMo_j62 sMlists_j62 sMlengths_j62
def Mod_append_j37 (x1_j37 : Int32) (x2_j37 : Int32) (t0_j37 : Int32) (sMo_j37 : S_Mo) (sMlists_j37 : (Nat → Int32)) (sMlengths_j37 : (Nat → Int32)) : Option (Int32 × S_Mo × (Nat → Int32) × (Nat → Int32)) := if (Mo_thrown sMo_j37) = 0 then o_gd (o_in t0_j37 17) (if 0 ≤ x1_j37 then Mod_append_j62 x2_j37 t0_j37 (sMlengths_j37 (t0_j37 : Int32).toNatClampNeg) 8 sMo_j37 sMlists_j37 sMlengths_j37 else Mod_append_j62 x2_j37 t0_j37 (sMlengths_j37 (t0_j37 : Int32).toNatClampNeg) 24 sMo_j37 sMlists_j37 sMlengths_j37) else Mod_append_j70 x2_j37 t0_j37 sMo_j37 sMlists_j37 sMlengths_j37
def Mod_append_j24 (x1_j24 : Int32) (x2_j24 : Int32) (t1_j24 : Int32) (sMo_j24 : S_Mo) (sMlists_j24 : (Nat → Int32)) (sMlengths_j24 : (Nat → Int32)) : Option (Int32 × S_Mo × (Nat → Int32) × (Nat → Int32)) := o_lt (Mo_set_thrown sMo_j24 t1_j24) fun sMo_5 => (if 0 ≤ x1_j24 then Mod_append_j37 x1_j24 x2_j24 x1_j24 sMo_5 sMlists_j24 sMlengths_j24 else Mod_append_j37 x1_j24 x2_j24 16 sMo_5 sMlists_j24 sMlengths_j24)
def Mod_append_j19 (x1_j19 : Int32) (x2_j19 : Int32) (sMo_j19 : S_Mo) (sMlists_j19 : (Nat → Int32)) (sMlengths_j19 : (Nat → Int32)) : Option (Int32 × S_Mo × (Nat → Int32) × (Nat → Int32)) := Mod_append_j24 x1_j19 x2_j19 1 sMo_j19 sMlists_j19 sMlengths_j19
def Mod_append (a0 : Int32) (a1 : Int32) (sMo : S_Mo) (sMlists : (Nat → Int32)) (sMlengths : (Nat → Int32)) : Option (Int32 × S_Mo × (Nat → Int32) × (Nat → Int32)) := if a0 < ((-1)) then Mod_append_j19 a0 a1 sMo sMlists sMlengths else if 15 < a0 then Mod_append_j19 a0 a1 sMo sMlists sMlengths else o_bd (Mod_isDescriptor a1) fun q1 => (if q1 = 0 then Mod_append_j19 a0 a1 sMo sMlists sMlengths else Mod_append_j24 a0 a1 0 sMo sMlists sMlengths)
abbrev rm_Mod_append : Room := { frames := 2, cells := 0, slots := 0, locals := 41 }
set_option maxHeartbeats 4000000 in
set_option maxRecDepth 100000 in
theorem c_Mod_append (l : Launch) (D : va_G) (K : Nat → ClassId) (hMo : Nat → Nat) (sMo : S_Mo) (sMlists : (Nat → Int32)) (sMlengths : (Nat → Int32)) (a0 : Int32) (a1 : Int32) (r : Int32) (sMo' : S_Mo) (sMlists' : (Nat → Int32)) (sMlengths' : (Nat → Int32)) (hf : Mod_append a0 a1 sMo sMlists sMlengths = some ((r, sMo', sMlists', sMlengths'))) : mi l D K y_Mod_append ws_Mod_append rm_Mod_append [.ref (hMo 0), .int a0, .int a1] (fl [wMo K hMo sMo, wRowI K (fun _ => hMo 5) 408 sMlists, wRowI K (fun _ => hMo 6) 17 sMlengths]) (fl [wMo K hMo sMo', wRowI K (fun _ => hMo 5) 408 sMlists', wRowI K (fun _ => hMo 6) 17 sMlengths']) r := by
  refine mi_of (cc := b_Mod_append) (maxL := 4) (own := "ObsMessagesModel") (by decide) rfl rfl (Nat.le_of_ble_eq_true rfl) ?_
  intro p e s m below meth c A ls hC hP hD hS hl
  obtain ⟨hx, hb, hml, hown, hts, hr, hlocks, hK, hF, hA⟩ := hC
  have hP : va_P D vwCl (fl [wMo K hMo sMo, wRowI K (fun _ => hMo 5) 408 sMlists, wRowI K (fun _ => hMo 6) 17 sMlengths]) s.heap := hP
  have hl : lv_has ls 4 [(0, .ref (hMo 0)), (1, .int a0), (2, .int a1)] := hl
  suffices hW : ∀ (H : Heap) (locs : List Loc), va_P D vwCl (fl [wMo K hMo sMo, wRowI K (fun _ => hMo 5) 408 sMlists, wRowI K (fun _ => hMo 6) 17 sMlengths]) H → va_S A s.heap H locs → W p l e rm_Mod_append s m ([.ref (hMo 0), .int a0, .int a1] : List Value).toArray below meth c H locs 0 0 (Qi below ([.ref (hMo 0), .int a0, .int a1] : List Value).toArray s D K A (fl [wMo K hMo sMo', wRowI K (fun _ => hMo 5) 408 sMlists', wRowI K (fun _ => hMo 6) 17 sMlengths']) r) (F0 m 0 ls []) from hW s.heap [] hP hS
  clear hP hS
  intro H locs hP hS
  have J70 : ∀ (x2_j70 : Int32) (x3_j70 : Int32) (sMo_j70 : S_Mo) (sMlists_j70 : (Nat → Int32)) (sMlengths_j70 : (Nat → Int32)) (H : Heap) (locs : List Loc) (ls : Array Slot), va_P D vwCl (fl [wMo K hMo sMo_j70, wRowI K (fun _ => hMo 5) 408 sMlists_j70, wRowI K (fun _ => hMo 6) 17 sMlengths_j70]) H → va_D A (fl [wMo K hMo sMo_j70, wRowI K (fun _ => hMo 5) 408 sMlists_j70, wRowI K (fun _ => hMo 6) 17 sMlengths_j70]) → va_S A s.heap H locs → lv_has ls 4 [(0, .ref (hMo 0)), (2, .int x2_j70), (3, .int x3_j70)] → Mod_append_j70 x2_j70 x3_j70 sMo_j70 sMlists_j70 sMlengths_j70 = some ((r, sMo', sMlists', sMlengths')) → W p l e rm_Mod_append s m ([.ref (hMo 0), .int a0, .int a1] : List Value).toArray below meth c H locs 0 0 (Qi below ([.ref (hMo 0), .int a0, .int a1] : List Value).toArray s D K A (fl [wMo K hMo sMo', wRowI K (fun _ => hMo 5) 408 sMlists', wRowI K (fun _ => hMo 6) 17 sMlengths']) r) (F0 m 70 ls []) := by
    intro x2_j70 x3_j70 sMo_j70 sMlists_j70 sMlengths_j70 H locs ls hP hD hS hl hf
    refine lv_aload_n (pc := 70) hx hb d_Mod_append_70 rfl (lv_at hl 0 rfl) ?_
    refine va_get (D := D) (ci := 10) (v := .int (Mo_thrown sMo_j70)) (C := R_Mod) (T := T_Mod) (N := 61) (pc := 71) hx hb hts (fun w h => List.mem_cons_of_mem _ (in_Mod w h)) hown hK hP _ (fl_at 0 0 rfl rfl) rfl 0 (by decide) (hts _ (List.mem_cons_of_mem _ tw_1093)) (fun _ h9 => h9) rfl d_Mod_append_71 ?_
    refine lv_if_le (tgt := 79) (pc := 74) hx hb d_Mod_append_74 (by decide) (fun c19 => ?_) (fun c19 => ?_)
    · replace hf := o_t c19 hf
      refine lv_aload_n (pc := 79) hx hb d_Mod_append_79 rfl (lv_at hl 0 rfl) ?_
      refine va_get (D := D) (ci := 10) (v := .ref (hMo 5)) (C := R_Mod) (T := T_Mod) (N := 61) (pc := 80) hx hb hts (fun w h => List.mem_cons_of_mem _ (in_Mod w h)) hown hK hP _ (fl_at 0 0 rfl rfl) rfl 6 (by decide) (hts _ (List.mem_cons_of_mem _ tw_1099)) (fun _ h9 => h9) rfl d_Mod_append_80 ?_
      refine lv_bipush (v := 24) (pc := 83) hx hb d_Mod_append_83 (by decide) ?_
      refine lv_iload_n (pc := 85) hx hb d_Mod_append_85 rfl (lv_at hl 2 rfl) ?_
      refine lv_imul (pc := 86) hx hb d_Mod_append_86 ?_
      refine lv_aload_n (pc := 87) hx hb d_Mod_append_87 rfl (lv_at hl 0 rfl) ?_
      refine va_get (D := D) (ci := 10) (v := .ref (hMo 6)) (C := R_Mod) (T := T_Mod) (N := 61) (pc := 88) hx hb hts (fun w h => List.mem_cons_of_mem _ (in_Mod w h)) hown hK hP _ (fl_at 0 0 rfl rfl) rfl 7 (by decide) (hts _ (List.mem_cons_of_mem _ tw_1100)) (fun _ h9 => h9) rfl d_Mod_append_88 ?_
      refine lv_iload_n (pc := 91) hx hb d_Mod_append_91 rfl (lv_at hl 2 rfl) ?_
      obtain ⟨hi12, hf⟩ := o_gi_e hf
      refine va_iald (D := D) (pc := 92) hx hb hK hP _ 0 (fl_at 2 0 rfl rfl) rfl hi12 d_Mod_append_92 ?_
      refine lv_iadd (pc := 93) hx hb d_Mod_append_93 ?_
      refine lv_iload_n (pc := 94) hx hb d_Mod_append_94 rfl (lv_at hl 1 rfl) ?_
      obtain ⟨hi13, hf⟩ := o_gi_e hf
      refine va_iast (D := D) (pc := 95) hx hb hK hP hD hS _ 0 (fl_at 1 0 rfl rfl) rfl hi13 d_Mod_append_95 (fun H locs hP hD hS => ?_)
      obtain ⟨sMlists_14, esMlists_14, hf⟩ := o_lt_e hf
      have hP : va_P D vwCl (fl [wMo K hMo sMo_j70, wRowI K (fun _ => hMo 5) 408 sMlists_14, wRowI K (fun _ => hMo 6) 17 sMlengths_j70]) H := by rw [esMlists_14]; exact fl_P 1 0 rfl (Nat.le_of_ble_eq_true rfl) rfl rfl hP
      have hD : va_D A (fl [wMo K hMo sMo_j70, wRowI K (fun _ => hMo 5) 408 sMlists_14, wRowI K (fun _ => hMo 6) 17 sMlengths_j70]) := by rw [esMlists_14]; exact fl_D 1 0 rfl (Nat.le_of_ble_eq_true rfl) rfl rfl hD
      refine lv_aload_n (pc := 96) hx hb d_Mod_append_96 rfl (lv_at hl 0 rfl) ?_
      refine va_get (D := D) (ci := 10) (v := .ref (hMo 6)) (C := R_Mod) (T := T_Mod) (N := 61) (pc := 97) hx hb hts (fun w h => List.mem_cons_of_mem _ (in_Mod w h)) hown hK hP _ (fl_at 0 0 rfl rfl) rfl 7 (by decide) (hts _ (List.mem_cons_of_mem _ tw_1100)) (fun _ h9 => h9) rfl d_Mod_append_97 ?_
      refine lv_iload_n (pc := 100) hx hb d_Mod_append_100 rfl (lv_at hl 2 rfl) ?_
      refine lv_dup2_11 (pc := 101) hx hb d_Mod_append_101 rfl rfl ?_
      obtain ⟨hi15, hf⟩ := o_gi_e hf
      refine va_iald (D := D) (pc := 102) hx hb hK hP _ 0 (fl_at 2 0 rfl rfl) rfl hi15 d_Mod_append_102 ?_
      refine lv_iconst (v := 1) (pc := 103) hx hb d_Mod_append_103 (by decide) ?_
      refine lv_iadd (pc := 104) hx hb d_Mod_append_104 ?_
      obtain ⟨hi16, hf⟩ := o_gi_e hf
      refine va_iast (D := D) (pc := 105) hx hb hK hP hD hS _ 0 (fl_at 2 0 rfl rfl) rfl hi16 d_Mod_append_105 (fun H locs hP hD hS => ?_)
      obtain ⟨sMlengths_17, esMlengths_17, hf⟩ := o_lt_e hf
      have hP : va_P D vwCl (fl [wMo K hMo sMo_j70, wRowI K (fun _ => hMo 5) 408 sMlists_14, wRowI K (fun _ => hMo 6) 17 sMlengths_17]) H := by rw [esMlengths_17]; exact fl_P 2 0 rfl (Nat.le_of_ble_eq_true rfl) rfl rfl hP
      have hD : va_D A (fl [wMo K hMo sMo_j70, wRowI K (fun _ => hMo 5) 408 sMlists_14, wRowI K (fun _ => hMo 6) 17 sMlengths_17]) := by rw [esMlengths_17]; exact fl_D 2 0 rfl (Nat.le_of_ble_eq_true rfl) rfl rfl hD
      refine lv_aload_n (pc := 106) hx hb d_Mod_append_106 rfl (lv_at hl 0 rfl) ?_
      refine va_get (D := D) (ci := 10) (v := .ref (hMo 6)) (C := R_Mod) (T := T_Mod) (N := 61) (pc := 107) hx hb hts (fun w h => List.mem_cons_of_mem _ (in_Mod w h)) hown hK hP _ (fl_at 0 0 rfl rfl) rfl 7 (by decide) (hts _ (List.mem_cons_of_mem _ tw_1100)) (fun _ h9 => h9) rfl d_Mod_append_107 ?_
      refine lv_iload_n (pc := 110) hx hb d_Mod_append_110 rfl (lv_at hl 2 rfl) ?_
      obtain ⟨hi18, hf⟩ := o_gi_e hf
      refine va_iald (D := D) (pc := 111) hx hb hK hP _ 0 (fl_at 2 0 rfl rfl) rfl hi18 d_Mod_append_111 ?_
      cases hf
      exact ret_i hx hb hr hlocks hK hP hS d_Mod_append_112
    · replace hf := o_f c19 hf
      refine lv_iconst (v := 0) (pc := 77) hx hb d_Mod_append_77 (by decide) ?_
      cases hf
      exact ret_i hx hb hr hlocks hK hP hS d_Mod_append_78
  have J62 : ∀ (x2_j62 : Int32) (x3_j62 : Int32) (t0_j62 : Int32) (t1_j62 : Int32) (sMo_j62 : S_Mo) (sMlists_j62 : (Nat → Int32)) (sMlengths_j62 : (Nat → Int32)) (H : Heap) (locs : List Loc) (ls : Array Slot), va_P D vwCl (fl [wMo K hMo sMo_j62, wRowI K (fun _ => hMo 5) 408 sMlists_j62, wRowI K (fun _ => hMo 6) 17 sMlengths_j62]) H → va_D A (fl [wMo K hMo sMo_j62, wRowI K (fun _ => hMo 5) 408 sMlists_j62, wRowI K (fun _ => hMo 6) 17 sMlengths_j62]) → va_S A s.heap H locs → lv_has ls 4 [(0, .ref (hMo 0)), (2, .int x2_j62), (3, .int x3_j62)] → Mod_append_j62 x2_j62 x3_j62 t0_j62 t1_j62 sMo_j62 sMlists_j62 sMlengths_j62 = some ((r, sMo', sMlists', sMlengths')) → W p l e rm_Mod_append s m ([.ref (hMo 0), .int a0, .int a1] : List Value).toArray below meth c H locs 0 0 (Qi below ([.ref (hMo 0), .int a0, .int a1] : List Value).toArray s D K A (fl [wMo K hMo sMo', wRowI K (fun _ => hMo 5) 408 sMlists', wRowI K (fun _ => hMo 6) 17 sMlengths']) r) (F0 m 62 ls [.int t1_j62, .int t0_j62]) := by
    intro x2_j62 x3_j62 t0_j62 t1_j62 sMo_j62 sMlists_j62 sMlengths_j62 H locs ls hP hD hS hl hf
    refine lv_icmp_ne (tgt := 70) (pc := 62) hx hb d_Mod_append_62 (by decide) (fun c11 => ?_) (fun c11 => ?_)
    · replace hf := o_f c11 hf
      exact J70 x2_j62 x3_j62 sMo_j62 sMlists_j62 sMlengths_j62 H locs ls hP hD hS (lv_sub hl [0, 1, 2] rfl) hf
    · replace hf := o_t c11 hf
      refine lv_aload_n (pc := 65) hx hb d_Mod_append_65 rfl (lv_at hl 0 rfl) ?_
      refine lv_iconst (v := 2) (pc := 66) hx hb d_Mod_append_66 (by decide) ?_
      refine va_put (D := D) (ci := 10) (v := .int 2) (ty := .int) (C := R_Mod) (T := T_Mod) (N := 61) (pc := 67) hx hb hts (fun w h => List.mem_cons_of_mem _ (in_Mod w h)) ty_Mod ty_Mod_ok nm_Mod hown hK hP hD hS _ (fl_at 0 0 rfl rfl) rfl 0 (by decide) (hts _ (List.mem_cons_of_mem _ tw_1093)) (fun _ h9 => h9) rfl (by decide +kernel) rfl rfl (Nat.le_of_ble_eq_true rfl) d_Mod_append_67 (fun H locs hP hD hS => ?_)
      obtain ⟨sMo_10, esMo_10, hf⟩ := o_lt_e hf
      have hP : va_P D vwCl (fl [wMo K hMo sMo_10, wRowI K (fun _ => hMo 5) 408 sMlists_j62, wRowI K (fun _ => hMo 6) 17 sMlengths_j62]) H := by rw [esMo_10]; exact fl_P 0 0 rfl (Nat.le_of_ble_eq_true rfl) rfl rfl hP
      have hD : va_D A (fl [wMo K hMo sMo_10, wRowI K (fun _ => hMo 5) 408 sMlists_j62, wRowI K (fun _ => hMo 6) 17 sMlengths_j62]) := by rw [esMo_10]; exact fl_D 0 0 rfl (Nat.le_of_ble_eq_true rfl) rfl rfl hD
      exact J70 x2_j62 x3_j62 sMo_10 sMlists_j62 sMlengths_j62 H locs ls hP hD hS (lv_sub hl [0, 1, 2] rfl) hf
  have J37 : ∀ (x1_j37 : Int32) (x2_j37 : Int32) (t0_j37 : Int32) (sMo_j37 : S_Mo) (sMlists_j37 : (Nat → Int32)) (sMlengths_j37 : (Nat → Int32)) (H : Heap) (locs : List Loc) (ls : Array Slot), va_P D vwCl (fl [wMo K hMo sMo_j37, wRowI K (fun _ => hMo 5) 408 sMlists_j37, wRowI K (fun _ => hMo 6) 17 sMlengths_j37]) H → va_D A (fl [wMo K hMo sMo_j37, wRowI K (fun _ => hMo 5) 408 sMlists_j37, wRowI K (fun _ => hMo 6) 17 sMlengths_j37]) → va_S A s.heap H locs → lv_has ls 4 [(0, .ref (hMo 0)), (1, .int x1_j37), (2, .int x2_j37)] → Mod_append_j37 x1_j37 x2_j37 t0_j37 sMo_j37 sMlists_j37 sMlengths_j37 = some ((r, sMo', sMlists', sMlengths')) → W p l e rm_Mod_append s m ([.ref (hMo 0), .int a0, .int a1] : List Value).toArray below meth c H locs 0 0 (Qi below ([.ref (hMo 0), .int a0, .int a1] : List Value).toArray s D K A (fl [wMo K hMo sMo', wRowI K (fun _ => hMo 5) 408 sMlists', wRowI K (fun _ => hMo 6) 17 sMlengths']) r) (F0 m 37 ls [.int t0_j37]) := by
    intro x1_j37 x2_j37 t0_j37 sMo_j37 sMlists_j37 sMlengths_j37 H locs ls hP hD hS hl hf
    refine lv_istore_n (lv' := [(3, .int t0_j37), (0, .ref (hMo 0)), (1, .int x1_j37), (2, .int x2_j37)]) (pc := 37) hx hb d_Mod_append_37 rfl hl (by decide) rfl (fun ls hl => ?_)
    refine lv_aload_n (pc := 38) hx hb d_Mod_append_38 rfl (lv_at hl 1 rfl) ?_
    refine va_get (D := D) (ci := 10) (v := .int (Mo_thrown sMo_j37)) (C := R_Mod) (T := T_Mod) (N := 61) (pc := 39) hx hb hts (fun w h => List.mem_cons_of_mem _ (in_Mod w h)) hown hK hP _ (fl_at 0 0 rfl rfl) rfl 0 (by decide) (hts _ (List.mem_cons_of_mem _ tw_1093)) (fun _ h9 => h9) rfl d_Mod_append_39 ?_
    refine lv_if_ne (tgt := 70) (pc := 42) hx hb d_Mod_append_42 (by decide) (fun c9 => ?_) (fun c9 => ?_)
    · replace hf := o_f c9 hf
      exact J70 x2_j37 t0_j37 sMo_j37 sMlists_j37 sMlengths_j37 H locs ls hP hD hS (lv_sub hl [1, 3, 0] rfl) hf
    · replace hf := o_t c9 hf
      refine lv_aload_n (pc := 45) hx hb d_Mod_append_45 rfl (lv_at hl 1 rfl) ?_
      refine va_get (D := D) (ci := 10) (v := .ref (hMo 6)) (C := R_Mod) (T := T_Mod) (N := 61) (pc := 46) hx hb hts (fun w h => List.mem_cons_of_mem _ (in_Mod w h)) hown hK hP _ (fl_at 0 0 rfl rfl) rfl 7 (by decide) (hts _ (List.mem_cons_of_mem _ tw_1100)) (fun _ h9 => h9) rfl d_Mod_append_46 ?_
      refine lv_iload_n (pc := 49) hx hb d_Mod_append_49 rfl (lv_at hl 0 rfl) ?_
      obtain ⟨hi7, hf⟩ := o_gi_e hf
      refine va_iald (D := D) (pc := 50) hx hb hK hP _ 0 (fl_at 2 0 rfl rfl) rfl hi7 d_Mod_append_50 ?_
      refine lv_iload_n (pc := 51) hx hb d_Mod_append_51 rfl (lv_at hl 2 rfl) ?_
      refine lv_if_ge (tgt := 60) (pc := 52) hx hb d_Mod_append_52 (by decide) (fun c8 => ?_) (fun c8 => ?_)
      · replace hf := o_t c8 hf
        refine lv_bipush (v := 8) (pc := 60) hx hb d_Mod_append_60 (by decide) ?_
        exact J62 x2_j37 t0_j37 (sMlengths_j37 (t0_j37 : Int32).toNatClampNeg) 8 sMo_j37 sMlists_j37 sMlengths_j37 H locs ls hP hD hS (lv_sub hl [1, 3, 0] rfl) hf
      · replace hf := o_f c8 hf
        refine lv_bipush (v := 24) (pc := 55) hx hb d_Mod_append_55 (by decide) ?_
        refine lv_goto (tgt := 62) (pc := 57) hx hb d_Mod_append_57 (by decide) ?_
        exact J62 x2_j37 t0_j37 (sMlengths_j37 (t0_j37 : Int32).toNatClampNeg) 24 sMo_j37 sMlists_j37 sMlengths_j37 H locs ls hP hD hS (lv_sub hl [1, 3, 0] rfl) hf
  have J24 : ∀ (x1_j24 : Int32) (x2_j24 : Int32) (t1_j24 : Int32) (sMo_j24 : S_Mo) (sMlists_j24 : (Nat → Int32)) (sMlengths_j24 : (Nat → Int32)) (H : Heap) (locs : List Loc) (ls : Array Slot), va_P D vwCl (fl [wMo K hMo sMo_j24, wRowI K (fun _ => hMo 5) 408 sMlists_j24, wRowI K (fun _ => hMo 6) 17 sMlengths_j24]) H → va_D A (fl [wMo K hMo sMo_j24, wRowI K (fun _ => hMo 5) 408 sMlists_j24, wRowI K (fun _ => hMo 6) 17 sMlengths_j24]) → va_S A s.heap H locs → lv_has ls 4 [(0, .ref (hMo 0)), (1, .int x1_j24), (2, .int x2_j24)] → Mod_append_j24 x1_j24 x2_j24 t1_j24 sMo_j24 sMlists_j24 sMlengths_j24 = some ((r, sMo', sMlists', sMlengths')) → W p l e rm_Mod_append s m ([.ref (hMo 0), .int a0, .int a1] : List Value).toArray below meth c H locs 0 0 (Qi below ([.ref (hMo 0), .int a0, .int a1] : List Value).toArray s D K A (fl [wMo K hMo sMo', wRowI K (fun _ => hMo 5) 408 sMlists', wRowI K (fun _ => hMo 6) 17 sMlengths']) r) (F0 m 24 ls [.int t1_j24, .ref (hMo 0)]) := by
    intro x1_j24 x2_j24 t1_j24 sMo_j24 sMlists_j24 sMlengths_j24 H locs ls hP hD hS hl hf
    refine va_put (D := D) (ci := 10) (v := .int t1_j24) (ty := .int) (C := R_Mod) (T := T_Mod) (N := 61) (pc := 24) hx hb hts (fun w h => List.mem_cons_of_mem _ (in_Mod w h)) ty_Mod ty_Mod_ok nm_Mod hown hK hP hD hS _ (fl_at 0 0 rfl rfl) rfl 0 (by decide) (hts _ (List.mem_cons_of_mem _ tw_1093)) (fun _ h9 => h9) rfl (by decide +kernel) rfl rfl (Nat.le_of_ble_eq_true rfl) d_Mod_append_24 (fun H locs hP hD hS => ?_)
    obtain ⟨sMo_5, esMo_5, hf⟩ := o_lt_e hf
    have hP : va_P D vwCl (fl [wMo K hMo sMo_5, wRowI K (fun _ => hMo 5) 408 sMlists_j24, wRowI K (fun _ => hMo 6) 17 sMlengths_j24]) H := by rw [esMo_5]; exact fl_P 0 0 rfl (Nat.le_of_ble_eq_true rfl) rfl rfl hP
    have hD : va_D A (fl [wMo K hMo sMo_5, wRowI K (fun _ => hMo 5) 408 sMlists_j24, wRowI K (fun _ => hMo 6) 17 sMlengths_j24]) := by rw [esMo_5]; exact fl_D 0 0 rfl (Nat.le_of_ble_eq_true rfl) rfl rfl hD
    refine lv_iload_n (pc := 27) hx hb d_Mod_append_27 rfl (lv_at hl 1 rfl) ?_
    refine lv_if_ge (tgt := 36) (pc := 28) hx hb d_Mod_append_28 (by decide) (fun c6 => ?_) (fun c6 => ?_)
    · replace hf := o_t c6 hf
      refine lv_iload_n (pc := 36) hx hb d_Mod_append_36 rfl (lv_at hl 1 rfl) ?_
      exact J37 x1_j24 x2_j24 x1_j24 sMo_5 sMlists_j24 sMlengths_j24 H locs ls hP hD hS (lv_sub hl [0, 1, 2] rfl) hf
    · replace hf := o_f c6 hf
      refine lv_bipush (v := 16) (pc := 31) hx hb d_Mod_append_31 (by decide) ?_
      refine lv_goto (tgt := 37) (pc := 33) hx hb d_Mod_append_33 (by decide) ?_
      exact J37 x1_j24 x2_j24 16 sMo_5 sMlists_j24 sMlengths_j24 H locs ls hP hD hS (lv_sub hl [0, 1, 2] rfl) hf
  have J19 : ∀ (x1_j19 : Int32) (x2_j19 : Int32) (sMo_j19 : S_Mo) (sMlists_j19 : (Nat → Int32)) (sMlengths_j19 : (Nat → Int32)) (H : Heap) (locs : List Loc) (ls : Array Slot), va_P D vwCl (fl [wMo K hMo sMo_j19, wRowI K (fun _ => hMo 5) 408 sMlists_j19, wRowI K (fun _ => hMo 6) 17 sMlengths_j19]) H → va_D A (fl [wMo K hMo sMo_j19, wRowI K (fun _ => hMo 5) 408 sMlists_j19, wRowI K (fun _ => hMo 6) 17 sMlengths_j19]) → va_S A s.heap H locs → lv_has ls 4 [(0, .ref (hMo 0)), (1, .int x1_j19), (2, .int x2_j19)] → Mod_append_j19 x1_j19 x2_j19 sMo_j19 sMlists_j19 sMlengths_j19 = some ((r, sMo', sMlists', sMlengths')) → W p l e rm_Mod_append s m ([.ref (hMo 0), .int a0, .int a1] : List Value).toArray below meth c H locs 0 0 (Qi below ([.ref (hMo 0), .int a0, .int a1] : List Value).toArray s D K A (fl [wMo K hMo sMo', wRowI K (fun _ => hMo 5) 408 sMlists', wRowI K (fun _ => hMo 6) 17 sMlengths']) r) (F0 m 19 ls [.ref (hMo 0)]) := by
    intro x1_j19 x2_j19 sMo_j19 sMlists_j19 sMlengths_j19 H locs ls hP hD hS hl hf
    refine lv_iconst (v := 1) (pc := 19) hx hb d_Mod_append_19 (by decide) ?_
    refine lv_goto (tgt := 24) (pc := 20) hx hb d_Mod_append_20 (by decide) ?_
    exact J24 x1_j19 x2_j19 1 sMo_j19 sMlists_j19 sMlengths_j19 H locs ls hP hD hS (lv_sub hl [0, 1, 2] rfl) hf
  refine lv_aload_n (pc := 0) hx hb d_Mod_append_0 rfl (lv_at hl 0 rfl) ?_
  refine lv_iload_n (pc := 1) hx hb d_Mod_append_1 rfl (lv_at hl 1 rfl) ?_
  refine lv_iconst (v := (-1)) (pc := 2) hx hb d_Mod_append_2 (by decide) ?_
  refine lv_icmp_lt (tgt := 19) (pc := 3) hx hb d_Mod_append_3 (by decide) (fun c4 => ?_) (fun c4 => ?_)
  · replace hf := o_t c4 hf
    exact J19 a0 a1 sMo sMlists sMlengths H locs ls hP hD hS (lv_sub hl [0, 1, 2] rfl) hf
  · replace hf := o_f c4 hf
    refine lv_iload_n (pc := 6) hx hb d_Mod_append_6 rfl (lv_at hl 1 rfl) ?_
    refine lv_bipush (v := 15) (pc := 7) hx hb d_Mod_append_7 (by decide) ?_
    refine lv_icmp_gt (tgt := 19) (pc := 9) hx hb d_Mod_append_9 (by decide) (fun c3 => ?_) (fun c3 => ?_)
    · replace hf := o_t c3 hf
      exact J19 a0 a1 sMo sMlists sMlengths H locs ls hP hD hS (lv_sub hl [0, 1, 2] rfl) hf
    · replace hf := o_f c3 hf
      refine lv_iload_n (pc := 12) hx hb d_Mod_append_12 rfl (lv_at hl 2 rfl) ?_
      obtain ⟨q1, hq1, hf⟩ := o_bd_e hf
      refine fi_i (pc := 13) (va_runS (As := [.int a1]) (rest := [.ref (hMo 0)]) ⟨hx, hb, hml, hown, hts⟩ ((c_Mod_isDescriptor l D K a1 q1 hq1) _) (cwS 1 hts (gS tw_1302 tw_1303 tw_12 tw_1304) rfl rfl rfl (by decide +kernel) ⟨by decide, by decide⟩) ⟨mPre_blind, (mPre_fl hK hF hA hP hD hS [] rfl rfl)⟩ rfl rfl hl.1 rfl (lv_room (Nat.le_of_ble_eq_true rfl)) d_Mod_append_13 ⟨Nat.zero_le _, Nat.zero_le _⟩) hA hP hD hS [] rfl rfl (fun H locs hP hD hS => ?_)
      have hP : va_P D vwCl (fl [wMo K hMo sMo, wRowI K (fun _ => hMo 5) 408 sMlists, wRowI K (fun _ => hMo 6) 17 sMlengths]) H := hP
      have hD : va_D A (fl [wMo K hMo sMo, wRowI K (fun _ => hMo 5) 408 sMlists, wRowI K (fun _ => hMo 6) 17 sMlengths]) := hD
      refine lv_if_ne (tgt := 23) (pc := 16) hx hb d_Mod_append_16 (by decide) (fun c2 => ?_) (fun c2 => ?_)
      · replace hf := o_f c2 hf
        refine lv_iconst (v := 0) (pc := 23) hx hb d_Mod_append_23 (by decide) ?_
        exact J24 a0 a1 0 sMo sMlists sMlengths H locs ls hP hD hS (lv_sub hl [0, 1, 2] rfl) hf
      · replace hf := o_t c2 hf
        exact J19 a0 a1 sMo sMlists sMlengths H locs ls hP hD hS (lv_sub hl [0, 1, 2] rfl) hf
def Mod_clear_j17 (x1_j17 : Int32) (t1_j17 : Int32) (sMo_j17 : S_Mo) (sMlengths_j17 : (Nat → Int32)) : Option (S_Mo × (Nat → Int32)) := o_lt (Mo_set_thrown sMo_j17 t1_j17) fun sMo_3 => (if (Mo_thrown sMo_3) = 0 then if 0 ≤ x1_j17 then o_gd (o_in x1_j17 17) (o_lt (upd sMlengths_j17 (x1_j17 : Int32).toNatClampNeg 0) fun sMlengths_5 => (some ((sMo_3, sMlengths_5)))) else o_gd (o_in 16 17) (o_lt (upd sMlengths_j17 (16 : Int32).toNatClampNeg 0) fun sMlengths_7 => (some ((sMo_3, sMlengths_7)))) else some ((sMo_3, sMlengths_j17)))
def Mod_clear_j12 (x1_j12 : Int32) (sMo_j12 : S_Mo) (sMlengths_j12 : (Nat → Int32)) : Option (S_Mo × (Nat → Int32)) := Mod_clear_j17 x1_j12 1 sMo_j12 sMlengths_j12
def Mod_clear (a0 : Int32) (sMo : S_Mo) (sMlengths : (Nat → Int32)) : Option (S_Mo × (Nat → Int32)) := if a0 < ((-1)) then Mod_clear_j12 a0 sMo sMlengths else if a0 ≤ 15 then Mod_clear_j17 a0 0 sMo sMlengths else Mod_clear_j12 a0 sMo sMlengths
abbrev rm_Mod_clear : Room := { frames := 0, cells := 0, slots := 0, locals := 0 }
set_option maxHeartbeats 4000000 in
set_option maxRecDepth 100000 in
theorem c_Mod_clear (l : Launch) (D : va_G) (K : Nat → ClassId) (hMo : Nat → Nat) (sMo : S_Mo) (sMlengths : (Nat → Int32)) (a0 : Int32) (sMo' : S_Mo) (sMlengths' : (Nat → Int32)) (hf : Mod_clear a0 sMo sMlengths = some ((sMo', sMlengths'))) : mv l D K y_Mod_clear ws_Mod_clear rm_Mod_clear [.ref (hMo 0), .int a0] (fl [wMo K hMo sMo, wRowI K (fun _ => hMo 6) 17 sMlengths]) (fl [wMo K hMo sMo', wRowI K (fun _ => hMo 6) 17 sMlengths']) := by
  refine mv_of (cc := b_Mod_clear) (maxL := 2) (own := "ObsMessagesModel") (by decide) rfl rfl (Nat.le_of_ble_eq_true rfl) ?_
  intro p e s m below meth c A ls hC hP hD hS hl
  obtain ⟨hx, hb, hml, hown, hts, hr, hlocks, hK, hF, hA⟩ := hC
  have hP : va_P D vwCl (fl [wMo K hMo sMo, wRowI K (fun _ => hMo 6) 17 sMlengths]) s.heap := hP
  have hl : lv_has ls 2 [(0, .ref (hMo 0)), (1, .int a0)] := hl
  suffices hW : ∀ (H : Heap) (locs : List Loc), va_P D vwCl (fl [wMo K hMo sMo, wRowI K (fun _ => hMo 6) 17 sMlengths]) H → va_S A s.heap H locs → W p l e rm_Mod_clear s m ([.ref (hMo 0), .int a0] : List Value).toArray below meth c H locs 0 0 (Qv below ([.ref (hMo 0), .int a0] : List Value).toArray s D K A (fl [wMo K hMo sMo', wRowI K (fun _ => hMo 6) 17 sMlengths'])) (F0 m 0 ls []) from hW s.heap [] hP hS
  clear hP hS
  intro H locs hP hS
  have J17 : ∀ (x1_j17 : Int32) (t1_j17 : Int32) (sMo_j17 : S_Mo) (sMlengths_j17 : (Nat → Int32)) (H : Heap) (locs : List Loc) (ls : Array Slot), va_P D vwCl (fl [wMo K hMo sMo_j17, wRowI K (fun _ => hMo 6) 17 sMlengths_j17]) H → va_D A (fl [wMo K hMo sMo_j17, wRowI K (fun _ => hMo 6) 17 sMlengths_j17]) → va_S A s.heap H locs → lv_has ls 2 [(0, .ref (hMo 0)), (1, .int x1_j17)] → Mod_clear_j17 x1_j17 t1_j17 sMo_j17 sMlengths_j17 = some ((sMo', sMlengths')) → W p l e rm_Mod_clear s m ([.ref (hMo 0), .int a0] : List Value).toArray below meth c H locs 0 0 (Qv below ([.ref (hMo 0), .int a0] : List Value).toArray s D K A (fl [wMo K hMo sMo', wRowI K (fun _ => hMo 6) 17 sMlengths'])) (F0 m 17 ls [.int t1_j17, .ref (hMo 0)]) := by
    intro x1_j17 t1_j17 sMo_j17 sMlengths_j17 H locs ls hP hD hS hl hf
    refine va_put (D := D) (ci := 10) (v := .int t1_j17) (ty := .int) (C := R_Mod) (T := T_Mod) (N := 61) (pc := 17) hx hb hts (fun w h => List.mem_cons_of_mem _ (in_Mod w h)) ty_Mod ty_Mod_ok nm_Mod hown hK hP hD hS _ (fl_at 0 0 rfl rfl) rfl 0 (by decide) (hts _ (List.mem_cons_of_mem _ tw_1093)) (fun _ h9 => h9) rfl (by decide +kernel) rfl rfl (Nat.le_of_ble_eq_true rfl) d_Mod_clear_17 (fun H locs hP hD hS => ?_)
    obtain ⟨sMo_3, esMo_3, hf⟩ := o_lt_e hf
    have hP : va_P D vwCl (fl [wMo K hMo sMo_3, wRowI K (fun _ => hMo 6) 17 sMlengths_j17]) H := by rw [esMo_3]; exact fl_P 0 0 rfl (Nat.le_of_ble_eq_true rfl) rfl rfl hP
    have hD : va_D A (fl [wMo K hMo sMo_3, wRowI K (fun _ => hMo 6) 17 sMlengths_j17]) := by rw [esMo_3]; exact fl_D 0 0 rfl (Nat.le_of_ble_eq_true rfl) rfl rfl hD
    refine lv_aload_n (pc := 20) hx hb d_Mod_clear_20 rfl (lv_at hl 0 rfl) ?_
    refine va_get (D := D) (ci := 10) (v := .int (Mo_thrown sMo_3)) (C := R_Mod) (T := T_Mod) (N := 61) (pc := 21) hx hb hts (fun w h => List.mem_cons_of_mem _ (in_Mod w h)) hown hK hP _ (fl_at 0 0 rfl rfl) rfl 0 (by decide) (hts _ (List.mem_cons_of_mem _ tw_1093)) (fun _ h9 => h9) rfl d_Mod_clear_21 ?_
    refine lv_if_ne (tgt := 43) (pc := 24) hx hb d_Mod_clear_24 (by decide) (fun c9 => ?_) (fun c9 => ?_)
    · replace hf := o_f c9 hf
      cases hf
      exact ret_v hx hb hr hlocks hK hP hS d_Mod_clear_43
    · replace hf := o_t c9 hf
      refine lv_aload_n (pc := 27) hx hb d_Mod_clear_27 rfl (lv_at hl 0 rfl) ?_
      refine va_get (D := D) (ci := 10) (v := .ref (hMo 6)) (C := R_Mod) (T := T_Mod) (N := 61) (pc := 28) hx hb hts (fun w h => List.mem_cons_of_mem _ (in_Mod w h)) hown hK hP _ (fl_at 0 0 rfl rfl) rfl 7 (by decide) (hts _ (List.mem_cons_of_mem _ tw_1100)) (fun _ h9 => h9) rfl d_Mod_clear_28 ?_
      refine lv_iload_n (pc := 31) hx hb d_Mod_clear_31 rfl (lv_at hl 1 rfl) ?_
      refine lv_if_ge (tgt := 40) (pc := 32) hx hb d_Mod_clear_32 (by decide) (fun c8 => ?_) (fun c8 => ?_)
      · replace hf := o_t c8 hf
        refine lv_iload_n (pc := 40) hx hb d_Mod_clear_40 rfl (lv_at hl 1 rfl) ?_
        refine lv_iconst (v := 0) (pc := 41) hx hb d_Mod_clear_41 (by decide) ?_
        obtain ⟨hi4, hf⟩ := o_gi_e hf
        refine va_iast (D := D) (pc := 42) hx hb hK hP hD hS _ 0 (fl_at 1 0 rfl rfl) rfl hi4 d_Mod_clear_42 (fun H locs hP hD hS => ?_)
        obtain ⟨sMlengths_5, esMlengths_5, hf⟩ := o_lt_e hf
        have hP : va_P D vwCl (fl [wMo K hMo sMo_3, wRowI K (fun _ => hMo 6) 17 sMlengths_5]) H := by rw [esMlengths_5]; exact fl_P 1 0 rfl (Nat.le_of_ble_eq_true rfl) rfl rfl hP
        have hD : va_D A (fl [wMo K hMo sMo_3, wRowI K (fun _ => hMo 6) 17 sMlengths_5]) := by rw [esMlengths_5]; exact fl_D 1 0 rfl (Nat.le_of_ble_eq_true rfl) rfl rfl hD
        cases hf
        exact ret_v hx hb hr hlocks hK hP hS d_Mod_clear_43
      · replace hf := o_f c8 hf
        refine lv_bipush (v := 16) (pc := 35) hx hb d_Mod_clear_35 (by decide) ?_
        refine lv_goto (tgt := 41) (pc := 37) hx hb d_Mod_clear_37 (by decide) ?_
        refine lv_iconst (v := 0) (pc := 41) hx hb d_Mod_clear_41 (by decide) ?_
        obtain ⟨hi6, hf⟩ := o_gi_e hf
        refine va_iast (D := D) (pc := 42) hx hb hK hP hD hS _ 0 (fl_at 1 0 rfl rfl) rfl hi6 d_Mod_clear_42 (fun H locs hP hD hS => ?_)
        obtain ⟨sMlengths_7, esMlengths_7, hf⟩ := o_lt_e hf
        have hP : va_P D vwCl (fl [wMo K hMo sMo_3, wRowI K (fun _ => hMo 6) 17 sMlengths_7]) H := by rw [esMlengths_7]; exact fl_P 1 0 rfl (Nat.le_of_ble_eq_true rfl) rfl rfl hP
        have hD : va_D A (fl [wMo K hMo sMo_3, wRowI K (fun _ => hMo 6) 17 sMlengths_7]) := by rw [esMlengths_7]; exact fl_D 1 0 rfl (Nat.le_of_ble_eq_true rfl) rfl rfl hD
        cases hf
        exact ret_v hx hb hr hlocks hK hP hS d_Mod_clear_43
  have J12 : ∀ (x1_j12 : Int32) (sMo_j12 : S_Mo) (sMlengths_j12 : (Nat → Int32)) (H : Heap) (locs : List Loc) (ls : Array Slot), va_P D vwCl (fl [wMo K hMo sMo_j12, wRowI K (fun _ => hMo 6) 17 sMlengths_j12]) H → va_D A (fl [wMo K hMo sMo_j12, wRowI K (fun _ => hMo 6) 17 sMlengths_j12]) → va_S A s.heap H locs → lv_has ls 2 [(0, .ref (hMo 0)), (1, .int x1_j12)] → Mod_clear_j12 x1_j12 sMo_j12 sMlengths_j12 = some ((sMo', sMlengths')) → W p l e rm_Mod_clear s m ([.ref (hMo 0), .int a0] : List Value).toArray below meth c H locs 0 0 (Qv below ([.ref (hMo 0), .int a0] : List Value).toArray s D K A (fl [wMo K hMo sMo', wRowI K (fun _ => hMo 6) 17 sMlengths'])) (F0 m 12 ls [.ref (hMo 0)]) := by
    intro x1_j12 sMo_j12 sMlengths_j12 H locs ls hP hD hS hl hf
    refine lv_iconst (v := 1) (pc := 12) hx hb d_Mod_clear_12 (by decide) ?_
    refine lv_goto (tgt := 17) (pc := 13) hx hb d_Mod_clear_13 (by decide) ?_
    exact J17 x1_j12 1 sMo_j12 sMlengths_j12 H locs ls hP hD hS (lv_sub hl [0, 1] rfl) hf
  refine lv_aload_n (pc := 0) hx hb d_Mod_clear_0 rfl (lv_at hl 0 rfl) ?_
  refine lv_iload_n (pc := 1) hx hb d_Mod_clear_1 rfl (lv_at hl 1 rfl) ?_
  refine lv_iconst (v := (-1)) (pc := 2) hx hb d_Mod_clear_2 (by decide) ?_
  refine lv_icmp_lt (tgt := 12) (pc := 3) hx hb d_Mod_clear_3 (by decide) (fun c2 => ?_) (fun c2 => ?_)
  · replace hf := o_t c2 hf
    exact J12 a0 sMo sMlengths H locs ls hP hD hS (lv_sub hl [0, 1] rfl) hf
  · replace hf := o_f c2 hf
    refine lv_iload_n (pc := 6) hx hb d_Mod_clear_6 rfl (lv_at hl 1 rfl) ?_
    refine lv_bipush (v := 15) (pc := 7) hx hb d_Mod_clear_7 (by decide) ?_
    refine lv_icmp_le (tgt := 16) (pc := 9) hx hb d_Mod_clear_9 (by decide) (fun c1 => ?_) (fun c1 => ?_)
    · replace hf := o_t c1 hf
      refine lv_iconst (v := 0) (pc := 16) hx hb d_Mod_clear_16 (by decide) ?_
      exact J17 a0 0 sMo sMlengths H locs ls hP hD hS (lv_sub hl [0, 1] rfl) hf
    · replace hf := o_f c1 hf
      exact J12 a0 sMo sMlengths H locs ls hP hD hS (lv_sub hl [0, 1] rfl) hf
def Mod_enter_L65 (fu : Nat) (sMops : (Nat → Int32)) (sMo_L65 : S_Mo) (sMlist_L65 : (Nat → Int32)) (sMnext_L65 : (Nat → Int32)) (sMend_L65 : (Nat → Int32)) (sMbegin_L65 : (Nat → Int32)) (sMleft_L65 : (Nat → Int32)) (sMturn_L65 : (Nat → Int32)) (ke_65 : (Nat → Int32) → Option (S_Mo × (Nat → Int32) × (Nat → Int32) × (Nat → Int32) × (Nat → Int32) × (Nat → Int32) × (Nat → Int32) × (Nat → Int32))) : Nat → Int32 → (Nat → Int32) → Option (S_Mo × (Nat → Int32) × (Nat → Int32) × (Nat → Int32) × (Nat → Int32) × (Nat → Int32) × (Nat → Int32) × (Nat → Int32))
  | 0, _, _ => none
  | n + 1, x6_L65, sMfoundOps_L65 => if 4 ≤ x6_L65 then ke_65 sMfoundOps_L65 else o_gd (o_in x6_L65 4) (o_gd (o_in ((4 * (Mo_open sMo_L65)) + x6_L65) 360) (o_lt (upd sMfoundOps_L65 ((4 * (Mo_open sMo_L65)) + x6_L65 : Int32).toNatClampNeg (sMops (x6_L65 : Int32).toNatClampNeg)) fun sMfoundOps_15 => (Mod_enter_L65 fu sMops sMo_L65 sMlist_L65 sMnext_L65 sMend_L65 sMbegin_L65 sMleft_L65 sMturn_L65 ke_65 n (x6_L65 + 1) sMfoundOps_15)))
def Mod_enter_j98 (fu : Nat) (sMops : (Nat → Int32)) (sMo_j98 : S_Mo) (sMlist_j98 : (Nat → Int32)) (sMnext_j98 : (Nat → Int32)) (sMend_j98 : (Nat → Int32)) (sMbegin_j98 : (Nat → Int32)) (sMleft_j98 : (Nat → Int32)) (sMturn_j98 : (Nat → Int32)) (sMfoundOps_j98 : (Nat → Int32)) : Option (S_Mo × (Nat → Int32) × (Nat → Int32) × (Nat → Int32) × (Nat → Int32) × (Nat → Int32) × (Nat → Int32) × (Nat → Int32)) := o_lt (Mo_set_open sMo_j98 ((Mo_open sMo_j98) + 1)) fun sMo_17 => (some ((sMo_17, sMlist_j98, sMnext_j98, sMend_j98, sMbegin_j98, sMleft_j98, sMturn_j98, sMfoundOps_j98)))
def Mod_enter (fu : Nat) (sMops : (Nat → Int32)) (a0 : Int32) (a1 : Int32) (a2 : Int32) (a3 : Int32) (a4 : Int32) (sMo : S_Mo) (sMlist : (Nat → Int32)) (sMnext : (Nat → Int32)) (sMend : (Nat → Int32)) (sMbegin : (Nat → Int32)) (sMleft : (Nat → Int32)) (sMturn : (Nat → Int32)) (sMfoundOps : (Nat → Int32)) : Option (S_Mo × (Nat → Int32) × (Nat → Int32) × (Nat → Int32) × (Nat → Int32) × (Nat → Int32) × (Nat → Int32) × (Nat → Int32)) := o_gd (o_in (Mo_open sMo) 90) (o_lt (upd sMlist (Mo_open sMo : Int32).toNatClampNeg a0) fun sMlist_2 => (o_gd (o_in (Mo_open sMo) 90) (o_lt (upd sMbegin (Mo_open sMo : Int32).toNatClampNeg a1) fun sMbegin_4 => (o_gd (o_in (Mo_open sMo) 90) (o_lt (upd sMnext (Mo_open sMo : Int32).toNatClampNeg a1) fun sMnext_6 => (o_gd (o_in (Mo_open sMo) 90) (o_lt (upd sMend (Mo_open sMo : Int32).toNatClampNeg a2) fun sMend_8 => (o_gd (o_in (Mo_open sMo) 90) (o_lt (upd sMleft (Mo_open sMo : Int32).toNatClampNeg a3) fun sMleft_10 => (o_gd (o_in (Mo_open sMo) 90) (o_lt (upd sMturn (Mo_open sMo : Int32).toNatClampNeg a4) fun sMturn_12 => (Mod_enter_L65 fu sMops sMo sMlist_2 sMnext_6 sMend_8 sMbegin_4 sMleft_10 sMturn_12 (fun zMfoundOps => Mod_enter_j98 fu sMops sMo sMlist_2 sMnext_6 sMend_8 sMbegin_4 sMleft_10 sMturn_12 zMfoundOps) fu 0 sMfoundOps))))))))))))
abbrev rm_Mod_enter : Room := { frames := 0, cells := 0, slots := 0, locals := 0 }
set_option maxHeartbeats 4000000 in
set_option maxRecDepth 100000 in
theorem c_Mod_enter (l : Launch) (D : va_G) (K : Nat → ClassId) (fu : Nat) (hMo : Nat → Nat) (sMo : S_Mo) (sMlist : (Nat → Int32)) (sMnext : (Nat → Int32)) (sMend : (Nat → Int32)) (sMbegin : (Nat → Int32)) (sMleft : (Nat → Int32)) (sMturn : (Nat → Int32)) (sMfoundOps : (Nat → Int32)) (sMops : (Nat → Int32)) (a0 : Int32) (a1 : Int32) (a2 : Int32) (a3 : Int32) (a4 : Int32) (sMo' : S_Mo) (sMlist' : (Nat → Int32)) (sMnext' : (Nat → Int32)) (sMend' : (Nat → Int32)) (sMbegin' : (Nat → Int32)) (sMleft' : (Nat → Int32)) (sMturn' : (Nat → Int32)) (sMfoundOps' : (Nat → Int32)) (hf : Mod_enter fu sMops a0 a1 a2 a3 a4 sMo sMlist sMnext sMend sMbegin sMleft sMturn sMfoundOps = some ((sMo', sMlist', sMnext', sMend', sMbegin', sMleft', sMturn', sMfoundOps'))) : mv l D K y_Mod_enter ws_Mod_enter rm_Mod_enter [.ref (hMo 0), .int a0, .int a1, .int a2, .int a3, .int a4] (fl [wMo K hMo sMo, wRowI K (fun _ => hMo 9) 90 sMlist, wRowI K (fun _ => hMo 10) 90 sMnext, wRowI K (fun _ => hMo 11) 90 sMend, wRowI K (fun _ => hMo 12) 90 sMbegin, wRowI K (fun _ => hMo 13) 90 sMleft, wRowI K (fun _ => hMo 14) 90 sMturn, wRowI K (fun _ => hMo 15) 360 sMfoundOps, wRowI K (fun _ => hMo 16) 4 sMops]) (fl [wMo K hMo sMo', wRowI K (fun _ => hMo 9) 90 sMlist', wRowI K (fun _ => hMo 10) 90 sMnext', wRowI K (fun _ => hMo 11) 90 sMend', wRowI K (fun _ => hMo 12) 90 sMbegin', wRowI K (fun _ => hMo 13) 90 sMleft', wRowI K (fun _ => hMo 14) 90 sMturn', wRowI K (fun _ => hMo 15) 360 sMfoundOps', wRowI K (fun _ => hMo 16) 4 sMops]) := by
  refine mv_of (cc := b_Mod_enter) (maxL := 7) (own := "ObsMessagesModel") (by decide) rfl rfl (Nat.le_of_ble_eq_true rfl) ?_
  intro p e s m below meth c A ls hC hP hD hS hl
  obtain ⟨hx, hb, hml, hown, hts, hr, hlocks, hK, hF, hA⟩ := hC
  have hP : va_P D vwCl (fl [wMo K hMo sMo, wRowI K (fun _ => hMo 9) 90 sMlist, wRowI K (fun _ => hMo 10) 90 sMnext, wRowI K (fun _ => hMo 11) 90 sMend, wRowI K (fun _ => hMo 12) 90 sMbegin, wRowI K (fun _ => hMo 13) 90 sMleft, wRowI K (fun _ => hMo 14) 90 sMturn, wRowI K (fun _ => hMo 15) 360 sMfoundOps, wRowI K (fun _ => hMo 16) 4 sMops]) s.heap := hP
  have hl : lv_has ls 7 [(0, .ref (hMo 0)), (1, .int a0), (2, .int a1), (3, .int a2), (4, .int a3), (5, .int a4)] := hl
  suffices hW : ∀ (H : Heap) (locs : List Loc), va_P D vwCl (fl [wMo K hMo sMo, wRowI K (fun _ => hMo 9) 90 sMlist, wRowI K (fun _ => hMo 10) 90 sMnext, wRowI K (fun _ => hMo 11) 90 sMend, wRowI K (fun _ => hMo 12) 90 sMbegin, wRowI K (fun _ => hMo 13) 90 sMleft, wRowI K (fun _ => hMo 14) 90 sMturn, wRowI K (fun _ => hMo 15) 360 sMfoundOps, wRowI K (fun _ => hMo 16) 4 sMops]) H → va_S A s.heap H locs → W p l e rm_Mod_enter s m ([.ref (hMo 0), .int a0, .int a1, .int a2, .int a3, .int a4] : List Value).toArray below meth c H locs 0 0 (Qv below ([.ref (hMo 0), .int a0, .int a1, .int a2, .int a3, .int a4] : List Value).toArray s D K A (fl [wMo K hMo sMo', wRowI K (fun _ => hMo 9) 90 sMlist', wRowI K (fun _ => hMo 10) 90 sMnext', wRowI K (fun _ => hMo 11) 90 sMend', wRowI K (fun _ => hMo 12) 90 sMbegin', wRowI K (fun _ => hMo 13) 90 sMleft', wRowI K (fun _ => hMo 14) 90 sMturn', wRowI K (fun _ => hMo 15) 360 sMfoundOps', wRowI K (fun _ => hMo 16) 4 sMops])) (F0 m 0 ls []) from hW s.heap [] hP hS
  clear hP hS
  intro H locs hP hS
  have J98 : ∀ (sMo_j98 : S_Mo) (sMlist_j98 : (Nat → Int32)) (sMnext_j98 : (Nat → Int32)) (sMend_j98 : (Nat → Int32)) (sMbegin_j98 : (Nat → Int32)) (sMleft_j98 : (Nat → Int32)) (sMturn_j98 : (Nat → Int32)) (sMfoundOps_j98 : (Nat → Int32)) (H : Heap) (locs : List Loc) (ls : Array Slot), va_P D vwCl (fl [wMo K hMo sMo_j98, wRowI K (fun _ => hMo 9) 90 sMlist_j98, wRowI K (fun _ => hMo 10) 90 sMnext_j98, wRowI K (fun _ => hMo 11) 90 sMend_j98, wRowI K (fun _ => hMo 12) 90 sMbegin_j98, wRowI K (fun _ => hMo 13) 90 sMleft_j98, wRowI K (fun _ => hMo 14) 90 sMturn_j98, wRowI K (fun _ => hMo 15) 360 sMfoundOps_j98, wRowI K (fun _ => hMo 16) 4 sMops]) H → va_D A (fl [wMo K hMo sMo_j98, wRowI K (fun _ => hMo 9) 90 sMlist_j98, wRowI K (fun _ => hMo 10) 90 sMnext_j98, wRowI K (fun _ => hMo 11) 90 sMend_j98, wRowI K (fun _ => hMo 12) 90 sMbegin_j98, wRowI K (fun _ => hMo 13) 90 sMleft_j98, wRowI K (fun _ => hMo 14) 90 sMturn_j98, wRowI K (fun _ => hMo 15) 360 sMfoundOps_j98, wRowI K (fun _ => hMo 16) 4 sMops]) → va_S A s.heap H locs → lv_has ls 7 [(0, .ref (hMo 0))] → Mod_enter_j98 fu sMops sMo_j98 sMlist_j98 sMnext_j98 sMend_j98 sMbegin_j98 sMleft_j98 sMturn_j98 sMfoundOps_j98 = some ((sMo', sMlist', sMnext', sMend', sMbegin', sMleft', sMturn', sMfoundOps')) → W p l e rm_Mod_enter s m ([.ref (hMo 0), .int a0, .int a1, .int a2, .int a3, .int a4] : List Value).toArray below meth c H locs 0 0 (Qv below ([.ref (hMo 0), .int a0, .int a1, .int a2, .int a3, .int a4] : List Value).toArray s D K A (fl [wMo K hMo sMo', wRowI K (fun _ => hMo 9) 90 sMlist', wRowI K (fun _ => hMo 10) 90 sMnext', wRowI K (fun _ => hMo 11) 90 sMend', wRowI K (fun _ => hMo 12) 90 sMbegin', wRowI K (fun _ => hMo 13) 90 sMleft', wRowI K (fun _ => hMo 14) 90 sMturn', wRowI K (fun _ => hMo 15) 360 sMfoundOps', wRowI K (fun _ => hMo 16) 4 sMops])) (F0 m 98 ls []) := by
    intro sMo_j98 sMlist_j98 sMnext_j98 sMend_j98 sMbegin_j98 sMleft_j98 sMturn_j98 sMfoundOps_j98 H locs ls hP hD hS hl hf
    refine lv_aload_n (pc := 98) hx hb d_Mod_enter_98 rfl (lv_at hl 0 rfl) ?_
    refine lv_dup (pc := 99) hx hb d_Mod_enter_99 rfl ?_
    refine va_get (D := D) (ci := 10) (v := .int (Mo_open sMo_j98)) (C := R_Mod) (T := T_Mod) (N := 61) (pc := 100) hx hb hts (fun w h => List.mem_cons_of_mem _ (in_Mod w h)) hown hK hP _ (fl_at 0 0 rfl rfl) rfl 12 (by decide) (hts _ (List.mem_cons_of_mem _ tw_1105)) (fun _ h9 => h9) rfl d_Mod_enter_100 ?_
    refine lv_iconst (v := 1) (pc := 103) hx hb d_Mod_enter_103 (by decide) ?_
    refine lv_iadd (pc := 104) hx hb d_Mod_enter_104 ?_
    refine va_put (D := D) (ci := 10) (v := .int ((Mo_open sMo_j98) + 1)) (ty := .int) (C := R_Mod) (T := T_Mod) (N := 61) (pc := 105) hx hb hts (fun w h => List.mem_cons_of_mem _ (in_Mod w h)) ty_Mod ty_Mod_ok nm_Mod hown hK hP hD hS _ (fl_at 0 0 rfl rfl) rfl 12 (by decide) (hts _ (List.mem_cons_of_mem _ tw_1105)) (fun _ h9 => h9) rfl (by decide +kernel) rfl rfl (Nat.le_of_ble_eq_true rfl) d_Mod_enter_105 (fun H locs hP hD hS => ?_)
    obtain ⟨sMo_17, esMo_17, hf⟩ := o_lt_e hf
    have hP : va_P D vwCl (fl [wMo K hMo sMo_17, wRowI K (fun _ => hMo 9) 90 sMlist_j98, wRowI K (fun _ => hMo 10) 90 sMnext_j98, wRowI K (fun _ => hMo 11) 90 sMend_j98, wRowI K (fun _ => hMo 12) 90 sMbegin_j98, wRowI K (fun _ => hMo 13) 90 sMleft_j98, wRowI K (fun _ => hMo 14) 90 sMturn_j98, wRowI K (fun _ => hMo 15) 360 sMfoundOps_j98, wRowI K (fun _ => hMo 16) 4 sMops]) H := by rw [esMo_17]; exact fl_P 0 0 rfl (Nat.le_of_ble_eq_true rfl) rfl rfl hP
    have hD : va_D A (fl [wMo K hMo sMo_17, wRowI K (fun _ => hMo 9) 90 sMlist_j98, wRowI K (fun _ => hMo 10) 90 sMnext_j98, wRowI K (fun _ => hMo 11) 90 sMend_j98, wRowI K (fun _ => hMo 12) 90 sMbegin_j98, wRowI K (fun _ => hMo 13) 90 sMleft_j98, wRowI K (fun _ => hMo 14) 90 sMturn_j98, wRowI K (fun _ => hMo 15) 360 sMfoundOps_j98, wRowI K (fun _ => hMo 16) 4 sMops]) := by rw [esMo_17]; exact fl_D 0 0 rfl (Nat.le_of_ble_eq_true rfl) rfl rfl hD
    cases hf
    exact ret_v hx hb hr hlocks hK hP hS d_Mod_enter_108
  refine lv_aload_n (pc := 0) hx hb d_Mod_enter_0 rfl (lv_at hl 0 rfl) ?_
  refine va_get (D := D) (ci := 10) (v := .ref (hMo 9)) (C := R_Mod) (T := T_Mod) (N := 61) (pc := 1) hx hb hts (fun w h => List.mem_cons_of_mem _ (in_Mod w h)) hown hK hP _ (fl_at 0 0 rfl rfl) rfl 13 (by decide) (hts _ (List.mem_cons_of_mem _ tw_1106)) (fun _ h9 => h9) rfl d_Mod_enter_1 ?_
  refine lv_aload_n (pc := 4) hx hb d_Mod_enter_4 rfl (lv_at hl 0 rfl) ?_
  refine va_get (D := D) (ci := 10) (v := .int (Mo_open sMo)) (C := R_Mod) (T := T_Mod) (N := 61) (pc := 5) hx hb hts (fun w h => List.mem_cons_of_mem _ (in_Mod w h)) hown hK hP _ (fl_at 0 0 rfl rfl) rfl 12 (by decide) (hts _ (List.mem_cons_of_mem _ tw_1105)) (fun _ h9 => h9) rfl d_Mod_enter_5 ?_
  refine lv_iload_n (pc := 8) hx hb d_Mod_enter_8 rfl (lv_at hl 1 rfl) ?_
  obtain ⟨hi1, hf⟩ := o_gi_e hf
  refine va_iast (D := D) (pc := 9) hx hb hK hP hD hS _ 0 (fl_at 1 0 rfl rfl) rfl hi1 d_Mod_enter_9 (fun H locs hP hD hS => ?_)
  obtain ⟨sMlist_2, esMlist_2, hf⟩ := o_lt_e hf
  have hP : va_P D vwCl (fl [wMo K hMo sMo, wRowI K (fun _ => hMo 9) 90 sMlist_2, wRowI K (fun _ => hMo 10) 90 sMnext, wRowI K (fun _ => hMo 11) 90 sMend, wRowI K (fun _ => hMo 12) 90 sMbegin, wRowI K (fun _ => hMo 13) 90 sMleft, wRowI K (fun _ => hMo 14) 90 sMturn, wRowI K (fun _ => hMo 15) 360 sMfoundOps, wRowI K (fun _ => hMo 16) 4 sMops]) H := by rw [esMlist_2]; exact fl_P 1 0 rfl (Nat.le_of_ble_eq_true rfl) rfl rfl hP
  have hD : va_D A (fl [wMo K hMo sMo, wRowI K (fun _ => hMo 9) 90 sMlist_2, wRowI K (fun _ => hMo 10) 90 sMnext, wRowI K (fun _ => hMo 11) 90 sMend, wRowI K (fun _ => hMo 12) 90 sMbegin, wRowI K (fun _ => hMo 13) 90 sMleft, wRowI K (fun _ => hMo 14) 90 sMturn, wRowI K (fun _ => hMo 15) 360 sMfoundOps, wRowI K (fun _ => hMo 16) 4 sMops]) := by rw [esMlist_2]; exact fl_D 1 0 rfl (Nat.le_of_ble_eq_true rfl) rfl rfl hD
  refine lv_aload_n (pc := 10) hx hb d_Mod_enter_10 rfl (lv_at hl 0 rfl) ?_
  refine va_get (D := D) (ci := 10) (v := .ref (hMo 12)) (C := R_Mod) (T := T_Mod) (N := 61) (pc := 11) hx hb hts (fun w h => List.mem_cons_of_mem _ (in_Mod w h)) hown hK hP _ (fl_at 0 0 rfl rfl) rfl 16 (by decide) (hts _ (List.mem_cons_of_mem _ tw_1109)) (fun _ h9 => h9) rfl d_Mod_enter_11 ?_
  refine lv_aload_n (pc := 14) hx hb d_Mod_enter_14 rfl (lv_at hl 0 rfl) ?_
  refine va_get (D := D) (ci := 10) (v := .int (Mo_open sMo)) (C := R_Mod) (T := T_Mod) (N := 61) (pc := 15) hx hb hts (fun w h => List.mem_cons_of_mem _ (in_Mod w h)) hown hK hP _ (fl_at 0 0 rfl rfl) rfl 12 (by decide) (hts _ (List.mem_cons_of_mem _ tw_1105)) (fun _ h9 => h9) rfl d_Mod_enter_15 ?_
  refine lv_iload_n (pc := 18) hx hb d_Mod_enter_18 rfl (lv_at hl 2 rfl) ?_
  obtain ⟨hi3, hf⟩ := o_gi_e hf
  refine va_iast (D := D) (pc := 19) hx hb hK hP hD hS _ 0 (fl_at 4 0 rfl rfl) rfl hi3 d_Mod_enter_19 (fun H locs hP hD hS => ?_)
  obtain ⟨sMbegin_4, esMbegin_4, hf⟩ := o_lt_e hf
  have hP : va_P D vwCl (fl [wMo K hMo sMo, wRowI K (fun _ => hMo 9) 90 sMlist_2, wRowI K (fun _ => hMo 10) 90 sMnext, wRowI K (fun _ => hMo 11) 90 sMend, wRowI K (fun _ => hMo 12) 90 sMbegin_4, wRowI K (fun _ => hMo 13) 90 sMleft, wRowI K (fun _ => hMo 14) 90 sMturn, wRowI K (fun _ => hMo 15) 360 sMfoundOps, wRowI K (fun _ => hMo 16) 4 sMops]) H := by rw [esMbegin_4]; exact fl_P 4 0 rfl (Nat.le_of_ble_eq_true rfl) rfl rfl hP
  have hD : va_D A (fl [wMo K hMo sMo, wRowI K (fun _ => hMo 9) 90 sMlist_2, wRowI K (fun _ => hMo 10) 90 sMnext, wRowI K (fun _ => hMo 11) 90 sMend, wRowI K (fun _ => hMo 12) 90 sMbegin_4, wRowI K (fun _ => hMo 13) 90 sMleft, wRowI K (fun _ => hMo 14) 90 sMturn, wRowI K (fun _ => hMo 15) 360 sMfoundOps, wRowI K (fun _ => hMo 16) 4 sMops]) := by rw [esMbegin_4]; exact fl_D 4 0 rfl (Nat.le_of_ble_eq_true rfl) rfl rfl hD
  refine lv_aload_n (pc := 20) hx hb d_Mod_enter_20 rfl (lv_at hl 0 rfl) ?_
  refine va_get (D := D) (ci := 10) (v := .ref (hMo 10)) (C := R_Mod) (T := T_Mod) (N := 61) (pc := 21) hx hb hts (fun w h => List.mem_cons_of_mem _ (in_Mod w h)) hown hK hP _ (fl_at 0 0 rfl rfl) rfl 14 (by decide) (hts _ (List.mem_cons_of_mem _ tw_1107)) (fun _ h9 => h9) rfl d_Mod_enter_21 ?_
  refine lv_aload_n (pc := 24) hx hb d_Mod_enter_24 rfl (lv_at hl 0 rfl) ?_
  refine va_get (D := D) (ci := 10) (v := .int (Mo_open sMo)) (C := R_Mod) (T := T_Mod) (N := 61) (pc := 25) hx hb hts (fun w h => List.mem_cons_of_mem _ (in_Mod w h)) hown hK hP _ (fl_at 0 0 rfl rfl) rfl 12 (by decide) (hts _ (List.mem_cons_of_mem _ tw_1105)) (fun _ h9 => h9) rfl d_Mod_enter_25 ?_
  refine lv_iload_n (pc := 28) hx hb d_Mod_enter_28 rfl (lv_at hl 2 rfl) ?_
  obtain ⟨hi5, hf⟩ := o_gi_e hf
  refine va_iast (D := D) (pc := 29) hx hb hK hP hD hS _ 0 (fl_at 2 0 rfl rfl) rfl hi5 d_Mod_enter_29 (fun H locs hP hD hS => ?_)
  obtain ⟨sMnext_6, esMnext_6, hf⟩ := o_lt_e hf
  have hP : va_P D vwCl (fl [wMo K hMo sMo, wRowI K (fun _ => hMo 9) 90 sMlist_2, wRowI K (fun _ => hMo 10) 90 sMnext_6, wRowI K (fun _ => hMo 11) 90 sMend, wRowI K (fun _ => hMo 12) 90 sMbegin_4, wRowI K (fun _ => hMo 13) 90 sMleft, wRowI K (fun _ => hMo 14) 90 sMturn, wRowI K (fun _ => hMo 15) 360 sMfoundOps, wRowI K (fun _ => hMo 16) 4 sMops]) H := by rw [esMnext_6]; exact fl_P 2 0 rfl (Nat.le_of_ble_eq_true rfl) rfl rfl hP
  have hD : va_D A (fl [wMo K hMo sMo, wRowI K (fun _ => hMo 9) 90 sMlist_2, wRowI K (fun _ => hMo 10) 90 sMnext_6, wRowI K (fun _ => hMo 11) 90 sMend, wRowI K (fun _ => hMo 12) 90 sMbegin_4, wRowI K (fun _ => hMo 13) 90 sMleft, wRowI K (fun _ => hMo 14) 90 sMturn, wRowI K (fun _ => hMo 15) 360 sMfoundOps, wRowI K (fun _ => hMo 16) 4 sMops]) := by rw [esMnext_6]; exact fl_D 2 0 rfl (Nat.le_of_ble_eq_true rfl) rfl rfl hD
  refine lv_aload_n (pc := 30) hx hb d_Mod_enter_30 rfl (lv_at hl 0 rfl) ?_
  refine va_get (D := D) (ci := 10) (v := .ref (hMo 11)) (C := R_Mod) (T := T_Mod) (N := 61) (pc := 31) hx hb hts (fun w h => List.mem_cons_of_mem _ (in_Mod w h)) hown hK hP _ (fl_at 0 0 rfl rfl) rfl 15 (by decide) (hts _ (List.mem_cons_of_mem _ tw_1108)) (fun _ h9 => h9) rfl d_Mod_enter_31 ?_
  refine lv_aload_n (pc := 34) hx hb d_Mod_enter_34 rfl (lv_at hl 0 rfl) ?_
  refine va_get (D := D) (ci := 10) (v := .int (Mo_open sMo)) (C := R_Mod) (T := T_Mod) (N := 61) (pc := 35) hx hb hts (fun w h => List.mem_cons_of_mem _ (in_Mod w h)) hown hK hP _ (fl_at 0 0 rfl rfl) rfl 12 (by decide) (hts _ (List.mem_cons_of_mem _ tw_1105)) (fun _ h9 => h9) rfl d_Mod_enter_35 ?_
  refine lv_iload_n (pc := 38) hx hb d_Mod_enter_38 rfl (lv_at hl 3 rfl) ?_
  obtain ⟨hi7, hf⟩ := o_gi_e hf
  refine va_iast (D := D) (pc := 39) hx hb hK hP hD hS _ 0 (fl_at 3 0 rfl rfl) rfl hi7 d_Mod_enter_39 (fun H locs hP hD hS => ?_)
  obtain ⟨sMend_8, esMend_8, hf⟩ := o_lt_e hf
  have hP : va_P D vwCl (fl [wMo K hMo sMo, wRowI K (fun _ => hMo 9) 90 sMlist_2, wRowI K (fun _ => hMo 10) 90 sMnext_6, wRowI K (fun _ => hMo 11) 90 sMend_8, wRowI K (fun _ => hMo 12) 90 sMbegin_4, wRowI K (fun _ => hMo 13) 90 sMleft, wRowI K (fun _ => hMo 14) 90 sMturn, wRowI K (fun _ => hMo 15) 360 sMfoundOps, wRowI K (fun _ => hMo 16) 4 sMops]) H := by rw [esMend_8]; exact fl_P 3 0 rfl (Nat.le_of_ble_eq_true rfl) rfl rfl hP
  have hD : va_D A (fl [wMo K hMo sMo, wRowI K (fun _ => hMo 9) 90 sMlist_2, wRowI K (fun _ => hMo 10) 90 sMnext_6, wRowI K (fun _ => hMo 11) 90 sMend_8, wRowI K (fun _ => hMo 12) 90 sMbegin_4, wRowI K (fun _ => hMo 13) 90 sMleft, wRowI K (fun _ => hMo 14) 90 sMturn, wRowI K (fun _ => hMo 15) 360 sMfoundOps, wRowI K (fun _ => hMo 16) 4 sMops]) := by rw [esMend_8]; exact fl_D 3 0 rfl (Nat.le_of_ble_eq_true rfl) rfl rfl hD
  refine lv_aload_n (pc := 40) hx hb d_Mod_enter_40 rfl (lv_at hl 0 rfl) ?_
  refine va_get (D := D) (ci := 10) (v := .ref (hMo 13)) (C := R_Mod) (T := T_Mod) (N := 61) (pc := 41) hx hb hts (fun w h => List.mem_cons_of_mem _ (in_Mod w h)) hown hK hP _ (fl_at 0 0 rfl rfl) rfl 17 (by decide) (hts _ (List.mem_cons_of_mem _ tw_1110)) (fun _ h9 => h9) rfl d_Mod_enter_41 ?_
  refine lv_aload_n (pc := 44) hx hb d_Mod_enter_44 rfl (lv_at hl 0 rfl) ?_
  refine va_get (D := D) (ci := 10) (v := .int (Mo_open sMo)) (C := R_Mod) (T := T_Mod) (N := 61) (pc := 45) hx hb hts (fun w h => List.mem_cons_of_mem _ (in_Mod w h)) hown hK hP _ (fl_at 0 0 rfl rfl) rfl 12 (by decide) (hts _ (List.mem_cons_of_mem _ tw_1105)) (fun _ h9 => h9) rfl d_Mod_enter_45 ?_
  refine lv_iload (pc := 48) hx hb d_Mod_enter_48 (lv_at hl 4 rfl) ?_
  obtain ⟨hi9, hf⟩ := o_gi_e hf
  refine va_iast (D := D) (pc := 50) hx hb hK hP hD hS _ 0 (fl_at 5 0 rfl rfl) rfl hi9 d_Mod_enter_50 (fun H locs hP hD hS => ?_)
  obtain ⟨sMleft_10, esMleft_10, hf⟩ := o_lt_e hf
  have hP : va_P D vwCl (fl [wMo K hMo sMo, wRowI K (fun _ => hMo 9) 90 sMlist_2, wRowI K (fun _ => hMo 10) 90 sMnext_6, wRowI K (fun _ => hMo 11) 90 sMend_8, wRowI K (fun _ => hMo 12) 90 sMbegin_4, wRowI K (fun _ => hMo 13) 90 sMleft_10, wRowI K (fun _ => hMo 14) 90 sMturn, wRowI K (fun _ => hMo 15) 360 sMfoundOps, wRowI K (fun _ => hMo 16) 4 sMops]) H := by rw [esMleft_10]; exact fl_P 5 0 rfl (Nat.le_of_ble_eq_true rfl) rfl rfl hP
  have hD : va_D A (fl [wMo K hMo sMo, wRowI K (fun _ => hMo 9) 90 sMlist_2, wRowI K (fun _ => hMo 10) 90 sMnext_6, wRowI K (fun _ => hMo 11) 90 sMend_8, wRowI K (fun _ => hMo 12) 90 sMbegin_4, wRowI K (fun _ => hMo 13) 90 sMleft_10, wRowI K (fun _ => hMo 14) 90 sMturn, wRowI K (fun _ => hMo 15) 360 sMfoundOps, wRowI K (fun _ => hMo 16) 4 sMops]) := by rw [esMleft_10]; exact fl_D 5 0 rfl (Nat.le_of_ble_eq_true rfl) rfl rfl hD
  refine lv_aload_n (pc := 51) hx hb d_Mod_enter_51 rfl (lv_at hl 0 rfl) ?_
  refine va_get (D := D) (ci := 10) (v := .ref (hMo 14)) (C := R_Mod) (T := T_Mod) (N := 61) (pc := 52) hx hb hts (fun w h => List.mem_cons_of_mem _ (in_Mod w h)) hown hK hP _ (fl_at 0 0 rfl rfl) rfl 18 (by decide) (hts _ (List.mem_cons_of_mem _ tw_1111)) (fun _ h9 => h9) rfl d_Mod_enter_52 ?_
  refine lv_aload_n (pc := 55) hx hb d_Mod_enter_55 rfl (lv_at hl 0 rfl) ?_
  refine va_get (D := D) (ci := 10) (v := .int (Mo_open sMo)) (C := R_Mod) (T := T_Mod) (N := 61) (pc := 56) hx hb hts (fun w h => List.mem_cons_of_mem _ (in_Mod w h)) hown hK hP _ (fl_at 0 0 rfl rfl) rfl 12 (by decide) (hts _ (List.mem_cons_of_mem _ tw_1105)) (fun _ h9 => h9) rfl d_Mod_enter_56 ?_
  refine lv_iload (pc := 59) hx hb d_Mod_enter_59 (lv_at hl 5 rfl) ?_
  obtain ⟨hi11, hf⟩ := o_gi_e hf
  refine va_iast (D := D) (pc := 61) hx hb hK hP hD hS _ 0 (fl_at 6 0 rfl rfl) rfl hi11 d_Mod_enter_61 (fun H locs hP hD hS => ?_)
  obtain ⟨sMturn_12, esMturn_12, hf⟩ := o_lt_e hf
  have hP : va_P D vwCl (fl [wMo K hMo sMo, wRowI K (fun _ => hMo 9) 90 sMlist_2, wRowI K (fun _ => hMo 10) 90 sMnext_6, wRowI K (fun _ => hMo 11) 90 sMend_8, wRowI K (fun _ => hMo 12) 90 sMbegin_4, wRowI K (fun _ => hMo 13) 90 sMleft_10, wRowI K (fun _ => hMo 14) 90 sMturn_12, wRowI K (fun _ => hMo 15) 360 sMfoundOps, wRowI K (fun _ => hMo 16) 4 sMops]) H := by rw [esMturn_12]; exact fl_P 6 0 rfl (Nat.le_of_ble_eq_true rfl) rfl rfl hP
  have hD : va_D A (fl [wMo K hMo sMo, wRowI K (fun _ => hMo 9) 90 sMlist_2, wRowI K (fun _ => hMo 10) 90 sMnext_6, wRowI K (fun _ => hMo 11) 90 sMend_8, wRowI K (fun _ => hMo 12) 90 sMbegin_4, wRowI K (fun _ => hMo 13) 90 sMleft_10, wRowI K (fun _ => hMo 14) 90 sMturn_12, wRowI K (fun _ => hMo 15) 360 sMfoundOps, wRowI K (fun _ => hMo 16) 4 sMops]) := by rw [esMturn_12]; exact fl_D 6 0 rfl (Nat.le_of_ble_eq_true rfl) rfl rfl hD
  refine lv_iconst (v := 0) (pc := 62) hx hb d_Mod_enter_62 (by decide) ?_
  refine lv_istore (lv' := [(6, .int 0), (0, .ref (hMo 0)), (1, .int a0), (2, .int a1), (3, .int a2), (4, .int a3), (5, .int a4)]) (pc := 63) hx hb d_Mod_enter_63 hl (by decide) rfl (fun ls hl => ?_)
  have L65 : ∀ (sMo_L65 : S_Mo) (sMlist_L65 : (Nat → Int32)) (sMnext_L65 : (Nat → Int32)) (sMend_L65 : (Nat → Int32)) (sMbegin_L65 : (Nat → Int32)) (sMleft_L65 : (Nat → Int32)) (sMturn_L65 : (Nat → Int32)) (n : Nat) (x6_L65 : Int32) (sMfoundOps_L65 : (Nat → Int32)) (H : Heap) (locs : List Loc) (ls : Array Slot), va_P D vwCl (fl [wMo K hMo sMo_L65, wRowI K (fun _ => hMo 9) 90 sMlist_L65, wRowI K (fun _ => hMo 10) 90 sMnext_L65, wRowI K (fun _ => hMo 11) 90 sMend_L65, wRowI K (fun _ => hMo 12) 90 sMbegin_L65, wRowI K (fun _ => hMo 13) 90 sMleft_L65, wRowI K (fun _ => hMo 14) 90 sMturn_L65, wRowI K (fun _ => hMo 15) 360 sMfoundOps_L65, wRowI K (fun _ => hMo 16) 4 sMops]) H → va_D A (fl [wMo K hMo sMo_L65, wRowI K (fun _ => hMo 9) 90 sMlist_L65, wRowI K (fun _ => hMo 10) 90 sMnext_L65, wRowI K (fun _ => hMo 11) 90 sMend_L65, wRowI K (fun _ => hMo 12) 90 sMbegin_L65, wRowI K (fun _ => hMo 13) 90 sMleft_L65, wRowI K (fun _ => hMo 14) 90 sMturn_L65, wRowI K (fun _ => hMo 15) 360 sMfoundOps_L65, wRowI K (fun _ => hMo 16) 4 sMops]) → va_S A s.heap H locs → lv_has ls 7 [(0, .ref (hMo 0)), (6, .int x6_L65)] → Mod_enter_L65 fu sMops sMo_L65 sMlist_L65 sMnext_L65 sMend_L65 sMbegin_L65 sMleft_L65 sMturn_L65 (fun zMfoundOps => Mod_enter_j98 fu sMops sMo_L65 sMlist_L65 sMnext_L65 sMend_L65 sMbegin_L65 sMleft_L65 sMturn_L65 zMfoundOps) n x6_L65 sMfoundOps_L65 = some ((sMo', sMlist', sMnext', sMend', sMbegin', sMleft', sMturn', sMfoundOps')) → W p l e rm_Mod_enter s m ([.ref (hMo 0), .int a0, .int a1, .int a2, .int a3, .int a4] : List Value).toArray below meth c H locs 0 0 (Qv below ([.ref (hMo 0), .int a0, .int a1, .int a2, .int a3, .int a4] : List Value).toArray s D K A (fl [wMo K hMo sMo', wRowI K (fun _ => hMo 9) 90 sMlist', wRowI K (fun _ => hMo 10) 90 sMnext', wRowI K (fun _ => hMo 11) 90 sMend', wRowI K (fun _ => hMo 12) 90 sMbegin', wRowI K (fun _ => hMo 13) 90 sMleft', wRowI K (fun _ => hMo 14) 90 sMturn', wRowI K (fun _ => hMo 15) 360 sMfoundOps', wRowI K (fun _ => hMo 16) 4 sMops])) (F0 m 65 ls []) := by
    intro sMo_L65 sMlist_L65 sMnext_L65 sMend_L65 sMbegin_L65 sMleft_L65 sMturn_L65 n
    induction n with
    | zero =>
      intro x6_L65 sMfoundOps_L65 H locs ls hP hD hS hl hf
      exact absurd hf (fun h => nomatch h)
    | succ n_65 ih_65 =>
      intro x6_L65 sMfoundOps_L65 H locs ls hP hD hS hl hf
      refine lv_iload (pc := 65) hx hb d_Mod_enter_65 (lv_at hl 1 rfl) ?_
      refine lv_iconst (v := 4) (pc := 67) hx hb d_Mod_enter_67 (by decide) ?_
      refine lv_icmp_ge (tgt := 98) (pc := 68) hx hb d_Mod_enter_68 (by decide) (fun c16 => ?_) (fun c16 => ?_)
      · replace hf := o_t c16 hf
        exact J98 sMo_L65 sMlist_L65 sMnext_L65 sMend_L65 sMbegin_L65 sMleft_L65 sMturn_L65 sMfoundOps_L65 H locs ls hP hD hS (lv_sub hl [0] rfl) hf
      · replace hf := o_f c16 hf
        refine lv_aload_n (pc := 71) hx hb d_Mod_enter_71 rfl (lv_at hl 0 rfl) ?_
        refine va_get (D := D) (ci := 10) (v := .ref (hMo 15)) (C := R_Mod) (T := T_Mod) (N := 61) (pc := 72) hx hb hts (fun w h => List.mem_cons_of_mem _ (in_Mod w h)) hown hK hP _ (fl_at 0 0 rfl rfl) rfl 19 (by decide) (hts _ (List.mem_cons_of_mem _ tw_1112)) (fun _ h9 => h9) rfl d_Mod_enter_72 ?_
        refine lv_iconst (v := 4) (pc := 75) hx hb d_Mod_enter_75 (by decide) ?_
        refine lv_aload_n (pc := 76) hx hb d_Mod_enter_76 rfl (lv_at hl 0 rfl) ?_
        refine va_get (D := D) (ci := 10) (v := .int (Mo_open sMo_L65)) (C := R_Mod) (T := T_Mod) (N := 61) (pc := 77) hx hb hts (fun w h => List.mem_cons_of_mem _ (in_Mod w h)) hown hK hP _ (fl_at 0 0 rfl rfl) rfl 12 (by decide) (hts _ (List.mem_cons_of_mem _ tw_1105)) (fun _ h9 => h9) rfl d_Mod_enter_77 ?_
        refine lv_imul (pc := 80) hx hb d_Mod_enter_80 ?_
        refine lv_iload (pc := 81) hx hb d_Mod_enter_81 (lv_at hl 1 rfl) ?_
        refine lv_iadd (pc := 83) hx hb d_Mod_enter_83 ?_
        refine lv_aload_n (pc := 84) hx hb d_Mod_enter_84 rfl (lv_at hl 0 rfl) ?_
        refine va_get (D := D) (ci := 10) (v := .ref (hMo 16)) (C := R_Mod) (T := T_Mod) (N := 61) (pc := 85) hx hb hts (fun w h => List.mem_cons_of_mem _ (in_Mod w h)) hown hK hP _ (fl_at 0 0 rfl rfl) rfl 20 (by decide) (hts _ (List.mem_cons_of_mem _ tw_1113)) (fun _ h9 => h9) rfl d_Mod_enter_85 ?_
        refine lv_iload (pc := 88) hx hb d_Mod_enter_88 (lv_at hl 1 rfl) ?_
        obtain ⟨hi13, hf⟩ := o_gi_e hf
        refine va_iald (D := D) (pc := 90) hx hb hK hP _ 0 (fl_at 8 0 rfl rfl) rfl hi13 d_Mod_enter_90 ?_
        obtain ⟨hi14, hf⟩ := o_gi_e hf
        refine va_iast (D := D) (pc := 91) hx hb hK hP hD hS _ 0 (fl_at 7 0 rfl rfl) rfl hi14 d_Mod_enter_91 (fun H locs hP hD hS => ?_)
        obtain ⟨sMfoundOps_15, esMfoundOps_15, hf⟩ := o_lt_e hf
        have hP : va_P D vwCl (fl [wMo K hMo sMo_L65, wRowI K (fun _ => hMo 9) 90 sMlist_L65, wRowI K (fun _ => hMo 10) 90 sMnext_L65, wRowI K (fun _ => hMo 11) 90 sMend_L65, wRowI K (fun _ => hMo 12) 90 sMbegin_L65, wRowI K (fun _ => hMo 13) 90 sMleft_L65, wRowI K (fun _ => hMo 14) 90 sMturn_L65, wRowI K (fun _ => hMo 15) 360 sMfoundOps_15, wRowI K (fun _ => hMo 16) 4 sMops]) H := by rw [esMfoundOps_15]; exact fl_P 7 0 rfl (Nat.le_of_ble_eq_true rfl) rfl rfl hP
        have hD : va_D A (fl [wMo K hMo sMo_L65, wRowI K (fun _ => hMo 9) 90 sMlist_L65, wRowI K (fun _ => hMo 10) 90 sMnext_L65, wRowI K (fun _ => hMo 11) 90 sMend_L65, wRowI K (fun _ => hMo 12) 90 sMbegin_L65, wRowI K (fun _ => hMo 13) 90 sMleft_L65, wRowI K (fun _ => hMo 14) 90 sMturn_L65, wRowI K (fun _ => hMo 15) 360 sMfoundOps_15, wRowI K (fun _ => hMo 16) 4 sMops]) := by rw [esMfoundOps_15]; exact fl_D 7 0 rfl (Nat.le_of_ble_eq_true rfl) rfl rfl hD
        refine lv_iinc (v := x6_L65 + 1) (lv' := [(6, .int (x6_L65 + 1)), (0, .ref (hMo 0))]) (pc := 92) hx hb d_Mod_enter_92 hl (k := 1) rfl rfl (by decide) rfl (fun ls hl => ?_)
        refine lv_goto (tgt := 65) (pc := 95) hx hb d_Mod_enter_95 (by decide) ?_
        exact ih_65 (x6_L65 + 1) sMfoundOps_15 H locs ls hP hD hS (lv_sub hl [1, 0] rfl) hf
  exact L65 sMo sMlist_2 sMnext_6 sMend_8 sMbegin_4 sMleft_10 sMturn_12 fu 0 sMfoundOps H locs ls hP hD hS (lv_sub hl [1, 0] rfl) hf
def Mod_start_L12 (fu : Nat) (sMlengths : (Nat → Int32)) (sMo_L12 : S_Mo) (sMlist_L12 : (Nat → Int32)) (sMnext_L12 : (Nat → Int32)) (sMend_L12 : (Nat → Int32)) (sMbegin_L12 : (Nat → Int32)) (sMleft_L12 : (Nat → Int32)) (sMturn_L12 : (Nat → Int32)) (sMfoundOps_L12 : (Nat → Int32)) (ke_12 : (Nat → Int32) → Option (S_Mo × (Nat → Int32) × (Nat → Int32) × (Nat → Int32) × (Nat → Int32) × (Nat → Int32) × (Nat → Int32) × (Nat → Int32) × (Nat → Int32))) : Nat → Int32 → (Nat → Int32) → Option (S_Mo × (Nat → Int32) × (Nat → Int32) × (Nat → Int32) × (Nat → Int32) × (Nat → Int32) × (Nat → Int32) × (Nat → Int32) × (Nat → Int32))
  | 0, _, _ => none
  | n + 1, x1_L12, sMops_L12 => if 4 ≤ x1_L12 then ke_12 sMops_L12 else o_gd (o_in x1_L12 4) (o_lt (upd sMops_L12 (x1_L12 : Int32).toNatClampNeg ((-100))) fun sMops_4 => (Mod_start_L12 fu sMlengths sMo_L12 sMlist_L12 sMnext_L12 sMend_L12 sMbegin_L12 sMleft_L12 sMturn_L12 sMfoundOps_L12 ke_12 n (x1_L12 + 1) sMops_4))
def Mod_start_j31 (fu : Nat) (sMlengths : (Nat → Int32)) (sMo_j31 : S_Mo) (sMlist_j31 : (Nat → Int32)) (sMnext_j31 : (Nat → Int32)) (sMend_j31 : (Nat → Int32)) (sMbegin_j31 : (Nat → Int32)) (sMleft_j31 : (Nat → Int32)) (sMturn_j31 : (Nat → Int32)) (sMfoundOps_j31 : (Nat → Int32)) (sMops_j31 : (Nat → Int32)) : Option (S_Mo × (Nat → Int32) × (Nat → Int32) × (Nat → Int32) × (Nat → Int32) × (Nat → Int32) × (Nat → Int32) × (Nat → Int32) × (Nat → Int32)) := o_gd (o_in 16 17) (o_bd (Mod_enter fu sMops_j31 16 0 (sMlengths (16 : Int32).toNatClampNeg) 1 ((-1)) sMo_j31 sMlist_j31 sMnext_j31 sMend_j31 sMbegin_j31 sMleft_j31 sMturn_j31 sMfoundOps_j31) fun q7 => (some ((q7.1, q7.2.1, q7.2.2.1, q7.2.2.2.1, q7.2.2.2.2.1, q7.2.2.2.2.2.1, q7.2.2.2.2.2.2.1, q7.2.2.2.2.2.2.2, sMops_j31))))
def Mod_start (fu : Nat) (sMlengths : (Nat → Int32)) (sMo : S_Mo) (sMlist : (Nat → Int32)) (sMnext : (Nat → Int32)) (sMend : (Nat → Int32)) (sMbegin : (Nat → Int32)) (sMleft : (Nat → Int32)) (sMturn : (Nat → Int32)) (sMfoundOps : (Nat → Int32)) (sMops : (Nat → Int32)) : Option (S_Mo × (Nat → Int32) × (Nat → Int32) × (Nat → Int32) × (Nat → Int32) × (Nat → Int32) × (Nat → Int32) × (Nat → Int32) × (Nat → Int32)) := o_lt (Mo_set_open sMo 0) fun sMo_1 => (o_lt (Mo_set_looked sMo_1 0) fun sMo_2 => (Mod_start_L12 fu sMlengths sMo_2 sMlist sMnext sMend sMbegin sMleft sMturn sMfoundOps (fun zMops => Mod_start_j31 fu sMlengths sMo_2 sMlist sMnext sMend sMbegin sMleft sMturn sMfoundOps zMops) fu 0 sMops))
abbrev rm_Mod_start : Room := { frames := 1, cells := 0, slots := 0, locals := 26 }
set_option maxHeartbeats 4000000 in
set_option maxRecDepth 100000 in
theorem c_Mod_start (l : Launch) (D : va_G) (K : Nat → ClassId) (fu : Nat) (hMo : Nat → Nat) (sMo : S_Mo) (sMlengths : (Nat → Int32)) (sMlist : (Nat → Int32)) (sMnext : (Nat → Int32)) (sMend : (Nat → Int32)) (sMbegin : (Nat → Int32)) (sMleft : (Nat → Int32)) (sMturn : (Nat → Int32)) (sMfoundOps : (Nat → Int32)) (sMops : (Nat → Int32)) (sMo' : S_Mo) (sMlist' : (Nat → Int32)) (sMnext' : (Nat → Int32)) (sMend' : (Nat → Int32)) (sMbegin' : (Nat → Int32)) (sMleft' : (Nat → Int32)) (sMturn' : (Nat → Int32)) (sMfoundOps' : (Nat → Int32)) (sMops' : (Nat → Int32)) (hf : Mod_start fu sMlengths sMo sMlist sMnext sMend sMbegin sMleft sMturn sMfoundOps sMops = some ((sMo', sMlist', sMnext', sMend', sMbegin', sMleft', sMturn', sMfoundOps', sMops'))) : mv l D K y_Mod_start ws_Mod_start rm_Mod_start [.ref (hMo 0)] (fl [wMo K hMo sMo, wRowI K (fun _ => hMo 6) 17 sMlengths, wRowI K (fun _ => hMo 9) 90 sMlist, wRowI K (fun _ => hMo 10) 90 sMnext, wRowI K (fun _ => hMo 11) 90 sMend, wRowI K (fun _ => hMo 12) 90 sMbegin, wRowI K (fun _ => hMo 13) 90 sMleft, wRowI K (fun _ => hMo 14) 90 sMturn, wRowI K (fun _ => hMo 15) 360 sMfoundOps, wRowI K (fun _ => hMo 16) 4 sMops]) (fl [wMo K hMo sMo', wRowI K (fun _ => hMo 6) 17 sMlengths, wRowI K (fun _ => hMo 9) 90 sMlist', wRowI K (fun _ => hMo 10) 90 sMnext', wRowI K (fun _ => hMo 11) 90 sMend', wRowI K (fun _ => hMo 12) 90 sMbegin', wRowI K (fun _ => hMo 13) 90 sMleft', wRowI K (fun _ => hMo 14) 90 sMturn', wRowI K (fun _ => hMo 15) 360 sMfoundOps', wRowI K (fun _ => hMo 16) 4 sMops']) := by
  refine mv_of (cc := b_Mod_start) (maxL := 2) (own := "ObsMessagesModel") (by decide) rfl rfl (Nat.le_of_ble_eq_true rfl) ?_
  intro p e s m below meth c A ls hC hP hD hS hl
  obtain ⟨hx, hb, hml, hown, hts, hr, hlocks, hK, hF, hA⟩ := hC
  have hP : va_P D vwCl (fl [wMo K hMo sMo, wRowI K (fun _ => hMo 6) 17 sMlengths, wRowI K (fun _ => hMo 9) 90 sMlist, wRowI K (fun _ => hMo 10) 90 sMnext, wRowI K (fun _ => hMo 11) 90 sMend, wRowI K (fun _ => hMo 12) 90 sMbegin, wRowI K (fun _ => hMo 13) 90 sMleft, wRowI K (fun _ => hMo 14) 90 sMturn, wRowI K (fun _ => hMo 15) 360 sMfoundOps, wRowI K (fun _ => hMo 16) 4 sMops]) s.heap := hP
  have hl : lv_has ls 2 [(0, .ref (hMo 0))] := hl
  suffices hW : ∀ (H : Heap) (locs : List Loc), va_P D vwCl (fl [wMo K hMo sMo, wRowI K (fun _ => hMo 6) 17 sMlengths, wRowI K (fun _ => hMo 9) 90 sMlist, wRowI K (fun _ => hMo 10) 90 sMnext, wRowI K (fun _ => hMo 11) 90 sMend, wRowI K (fun _ => hMo 12) 90 sMbegin, wRowI K (fun _ => hMo 13) 90 sMleft, wRowI K (fun _ => hMo 14) 90 sMturn, wRowI K (fun _ => hMo 15) 360 sMfoundOps, wRowI K (fun _ => hMo 16) 4 sMops]) H → va_S A s.heap H locs → W p l e rm_Mod_start s m ([.ref (hMo 0)] : List Value).toArray below meth c H locs 0 0 (Qv below ([.ref (hMo 0)] : List Value).toArray s D K A (fl [wMo K hMo sMo', wRowI K (fun _ => hMo 6) 17 sMlengths, wRowI K (fun _ => hMo 9) 90 sMlist', wRowI K (fun _ => hMo 10) 90 sMnext', wRowI K (fun _ => hMo 11) 90 sMend', wRowI K (fun _ => hMo 12) 90 sMbegin', wRowI K (fun _ => hMo 13) 90 sMleft', wRowI K (fun _ => hMo 14) 90 sMturn', wRowI K (fun _ => hMo 15) 360 sMfoundOps', wRowI K (fun _ => hMo 16) 4 sMops'])) (F0 m 0 ls []) from hW s.heap [] hP hS
  clear hP hS
  intro H locs hP hS
  have J31 : ∀ (sMo_j31 : S_Mo) (sMlist_j31 : (Nat → Int32)) (sMnext_j31 : (Nat → Int32)) (sMend_j31 : (Nat → Int32)) (sMbegin_j31 : (Nat → Int32)) (sMleft_j31 : (Nat → Int32)) (sMturn_j31 : (Nat → Int32)) (sMfoundOps_j31 : (Nat → Int32)) (sMops_j31 : (Nat → Int32)) (H : Heap) (locs : List Loc) (ls : Array Slot), va_P D vwCl (fl [wMo K hMo sMo_j31, wRowI K (fun _ => hMo 6) 17 sMlengths, wRowI K (fun _ => hMo 9) 90 sMlist_j31, wRowI K (fun _ => hMo 10) 90 sMnext_j31, wRowI K (fun _ => hMo 11) 90 sMend_j31, wRowI K (fun _ => hMo 12) 90 sMbegin_j31, wRowI K (fun _ => hMo 13) 90 sMleft_j31, wRowI K (fun _ => hMo 14) 90 sMturn_j31, wRowI K (fun _ => hMo 15) 360 sMfoundOps_j31, wRowI K (fun _ => hMo 16) 4 sMops_j31]) H → va_D A (fl [wMo K hMo sMo_j31, wRowI K (fun _ => hMo 6) 17 sMlengths, wRowI K (fun _ => hMo 9) 90 sMlist_j31, wRowI K (fun _ => hMo 10) 90 sMnext_j31, wRowI K (fun _ => hMo 11) 90 sMend_j31, wRowI K (fun _ => hMo 12) 90 sMbegin_j31, wRowI K (fun _ => hMo 13) 90 sMleft_j31, wRowI K (fun _ => hMo 14) 90 sMturn_j31, wRowI K (fun _ => hMo 15) 360 sMfoundOps_j31, wRowI K (fun _ => hMo 16) 4 sMops_j31]) → va_S A s.heap H locs → lv_has ls 2 [(0, .ref (hMo 0))] → Mod_start_j31 fu sMlengths sMo_j31 sMlist_j31 sMnext_j31 sMend_j31 sMbegin_j31 sMleft_j31 sMturn_j31 sMfoundOps_j31 sMops_j31 = some ((sMo', sMlist', sMnext', sMend', sMbegin', sMleft', sMturn', sMfoundOps', sMops')) → W p l e rm_Mod_start s m ([.ref (hMo 0)] : List Value).toArray below meth c H locs 0 0 (Qv below ([.ref (hMo 0)] : List Value).toArray s D K A (fl [wMo K hMo sMo', wRowI K (fun _ => hMo 6) 17 sMlengths, wRowI K (fun _ => hMo 9) 90 sMlist', wRowI K (fun _ => hMo 10) 90 sMnext', wRowI K (fun _ => hMo 11) 90 sMend', wRowI K (fun _ => hMo 12) 90 sMbegin', wRowI K (fun _ => hMo 13) 90 sMleft', wRowI K (fun _ => hMo 14) 90 sMturn', wRowI K (fun _ => hMo 15) 360 sMfoundOps', wRowI K (fun _ => hMo 16) 4 sMops'])) (F0 m 31 ls []) := by
    intro sMo_j31 sMlist_j31 sMnext_j31 sMend_j31 sMbegin_j31 sMleft_j31 sMturn_j31 sMfoundOps_j31 sMops_j31 H locs ls hP hD hS hl hf
    refine lv_aload_n (pc := 31) hx hb d_Mod_start_31 rfl (lv_at hl 0 rfl) ?_
    refine lv_bipush (v := 16) (pc := 32) hx hb d_Mod_start_32 (by decide) ?_
    refine lv_iconst (v := 0) (pc := 34) hx hb d_Mod_start_34 (by decide) ?_
    refine lv_aload_n (pc := 35) hx hb d_Mod_start_35 rfl (lv_at hl 0 rfl) ?_
    refine va_get (D := D) (ci := 10) (v := .ref (hMo 6)) (C := R_Mod) (T := T_Mod) (N := 61) (pc := 36) hx hb hts (fun w h => List.mem_cons_of_mem _ (in_Mod w h)) hown hK hP _ (fl_at 0 0 rfl rfl) rfl 7 (by decide) (hts _ (List.mem_cons_of_mem _ tw_1100)) (fun _ h9 => h9) rfl d_Mod_start_36 ?_
    refine lv_bipush (v := 16) (pc := 39) hx hb d_Mod_start_39 (by decide) ?_
    obtain ⟨hi6, hf⟩ := o_gi_e hf
    refine va_iald (D := D) (pc := 41) hx hb hK hP _ 0 (fl_at 1 0 rfl rfl) rfl hi6 d_Mod_start_41 ?_
    refine lv_iconst (v := 1) (pc := 42) hx hb d_Mod_start_42 (by decide) ?_
    refine lv_iconst (v := (-1)) (pc := 43) hx hb d_Mod_start_43 (by decide) ?_
    obtain ⟨q7, hq7, hf⟩ := o_bd_e hf
    refine fi_v (pc := 44) (va_runV (As := [.int 16, .int 0, .int (sMlengths (16 : Int32).toNatClampNeg), .int 1, .int ((-1))]) (rest := []) ⟨hx, hb, hml, hown, hts⟩ ((c_Mod_enter l D K fu hMo sMo_j31 sMlist_j31 sMnext_j31 sMend_j31 sMbegin_j31 sMleft_j31 sMturn_j31 sMfoundOps_j31 sMops_j31 16 0 (sMlengths (16 : Int32).toNatClampNeg) 1 ((-1)) q7.1 q7.2.1 q7.2.2.1 q7.2.2.2.1 q7.2.2.2.2.1 q7.2.2.2.2.2.1 q7.2.2.2.2.2.2.1 q7.2.2.2.2.2.2.2 hq7) _) (cwV 5 hts (gV tw_1328 tw_1330 tp_41 tw_12 tw_1331) rfl rfl rfl (by decide +kernel) ⟨by decide, by decide⟩) ⟨mPre_blind, va_recv hK hP (ci := 10) rfl (fl_at 0 0 rfl rfl), (mPre_fl hK hF hA hP hD hS [0, 2, 3, 4, 5, 6, 7, 8, 9] rfl rfl)⟩ rfl rfl hl.1 rfl (lv_room (Nat.le_of_ble_eq_true rfl)) d_Mod_start_44 ⟨Nat.zero_le _, Nat.zero_le _⟩) hA hP hD hS [0, 2, 3, 4, 5, 6, 7, 8, 9] rfl rfl (fun H locs hP hD hS => ?_)
    have hP : va_P D vwCl (fl [wMo K hMo q7.1, wRowI K (fun _ => hMo 6) 17 sMlengths, wRowI K (fun _ => hMo 9) 90 q7.2.1, wRowI K (fun _ => hMo 10) 90 q7.2.2.1, wRowI K (fun _ => hMo 11) 90 q7.2.2.2.1, wRowI K (fun _ => hMo 12) 90 q7.2.2.2.2.1, wRowI K (fun _ => hMo 13) 90 q7.2.2.2.2.2.1, wRowI K (fun _ => hMo 14) 90 q7.2.2.2.2.2.2.1, wRowI K (fun _ => hMo 15) 360 q7.2.2.2.2.2.2.2, wRowI K (fun _ => hMo 16) 4 sMops_j31]) H := hP
    have hD : va_D A (fl [wMo K hMo q7.1, wRowI K (fun _ => hMo 6) 17 sMlengths, wRowI K (fun _ => hMo 9) 90 q7.2.1, wRowI K (fun _ => hMo 10) 90 q7.2.2.1, wRowI K (fun _ => hMo 11) 90 q7.2.2.2.1, wRowI K (fun _ => hMo 12) 90 q7.2.2.2.2.1, wRowI K (fun _ => hMo 13) 90 q7.2.2.2.2.2.1, wRowI K (fun _ => hMo 14) 90 q7.2.2.2.2.2.2.1, wRowI K (fun _ => hMo 15) 360 q7.2.2.2.2.2.2.2, wRowI K (fun _ => hMo 16) 4 sMops_j31]) := hD
    cases hf
    exact ret_v hx hb hr hlocks hK hP hS d_Mod_start_47
  refine lv_aload_n (pc := 0) hx hb d_Mod_start_0 rfl (lv_at hl 0 rfl) ?_
  refine lv_iconst (v := 0) (pc := 1) hx hb d_Mod_start_1 (by decide) ?_
  refine va_put (D := D) (ci := 10) (v := .int 0) (ty := .int) (C := R_Mod) (T := T_Mod) (N := 61) (pc := 2) hx hb hts (fun w h => List.mem_cons_of_mem _ (in_Mod w h)) ty_Mod ty_Mod_ok nm_Mod hown hK hP hD hS _ (fl_at 0 0 rfl rfl) rfl 12 (by decide) (hts _ (List.mem_cons_of_mem _ tw_1105)) (fun _ h9 => h9) rfl (by decide +kernel) rfl rfl (Nat.le_of_ble_eq_true rfl) d_Mod_start_2 (fun H locs hP hD hS => ?_)
  obtain ⟨sMo_1, esMo_1, hf⟩ := o_lt_e hf
  have hP : va_P D vwCl (fl [wMo K hMo sMo_1, wRowI K (fun _ => hMo 6) 17 sMlengths, wRowI K (fun _ => hMo 9) 90 sMlist, wRowI K (fun _ => hMo 10) 90 sMnext, wRowI K (fun _ => hMo 11) 90 sMend, wRowI K (fun _ => hMo 12) 90 sMbegin, wRowI K (fun _ => hMo 13) 90 sMleft, wRowI K (fun _ => hMo 14) 90 sMturn, wRowI K (fun _ => hMo 15) 360 sMfoundOps, wRowI K (fun _ => hMo 16) 4 sMops]) H := by rw [esMo_1]; exact fl_P 0 0 rfl (Nat.le_of_ble_eq_true rfl) rfl rfl hP
  have hD : va_D A (fl [wMo K hMo sMo_1, wRowI K (fun _ => hMo 6) 17 sMlengths, wRowI K (fun _ => hMo 9) 90 sMlist, wRowI K (fun _ => hMo 10) 90 sMnext, wRowI K (fun _ => hMo 11) 90 sMend, wRowI K (fun _ => hMo 12) 90 sMbegin, wRowI K (fun _ => hMo 13) 90 sMleft, wRowI K (fun _ => hMo 14) 90 sMturn, wRowI K (fun _ => hMo 15) 360 sMfoundOps, wRowI K (fun _ => hMo 16) 4 sMops]) := by rw [esMo_1]; exact fl_D 0 0 rfl (Nat.le_of_ble_eq_true rfl) rfl rfl hD
  refine lv_aload_n (pc := 5) hx hb d_Mod_start_5 rfl (lv_at hl 0 rfl) ?_
  refine lv_iconst (v := 0) (pc := 6) hx hb d_Mod_start_6 (by decide) ?_
  refine va_put (D := D) (ci := 10) (v := .int 0) (ty := .int) (C := R_Mod) (T := T_Mod) (N := 61) (pc := 7) hx hb hts (fun w h => List.mem_cons_of_mem _ (in_Mod w h)) ty_Mod ty_Mod_ok nm_Mod hown hK hP hD hS _ (fl_at 0 0 rfl rfl) rfl 21 (by decide) (hts _ (List.mem_cons_of_mem _ tw_1114)) (fun _ h9 => h9) rfl (by decide +kernel) rfl rfl (Nat.le_of_ble_eq_true rfl) d_Mod_start_7 (fun H locs hP hD hS => ?_)
  obtain ⟨sMo_2, esMo_2, hf⟩ := o_lt_e hf
  have hP : va_P D vwCl (fl [wMo K hMo sMo_2, wRowI K (fun _ => hMo 6) 17 sMlengths, wRowI K (fun _ => hMo 9) 90 sMlist, wRowI K (fun _ => hMo 10) 90 sMnext, wRowI K (fun _ => hMo 11) 90 sMend, wRowI K (fun _ => hMo 12) 90 sMbegin, wRowI K (fun _ => hMo 13) 90 sMleft, wRowI K (fun _ => hMo 14) 90 sMturn, wRowI K (fun _ => hMo 15) 360 sMfoundOps, wRowI K (fun _ => hMo 16) 4 sMops]) H := by rw [esMo_2]; exact fl_P 0 0 rfl (Nat.le_of_ble_eq_true rfl) rfl rfl hP
  have hD : va_D A (fl [wMo K hMo sMo_2, wRowI K (fun _ => hMo 6) 17 sMlengths, wRowI K (fun _ => hMo 9) 90 sMlist, wRowI K (fun _ => hMo 10) 90 sMnext, wRowI K (fun _ => hMo 11) 90 sMend, wRowI K (fun _ => hMo 12) 90 sMbegin, wRowI K (fun _ => hMo 13) 90 sMleft, wRowI K (fun _ => hMo 14) 90 sMturn, wRowI K (fun _ => hMo 15) 360 sMfoundOps, wRowI K (fun _ => hMo 16) 4 sMops]) := by rw [esMo_2]; exact fl_D 0 0 rfl (Nat.le_of_ble_eq_true rfl) rfl rfl hD
  refine lv_iconst (v := 0) (pc := 10) hx hb d_Mod_start_10 (by decide) ?_
  refine lv_istore_n (lv' := [(1, .int 0), (0, .ref (hMo 0))]) (pc := 11) hx hb d_Mod_start_11 rfl hl (by decide) rfl (fun ls hl => ?_)
  have L12 : ∀ (sMo_L12 : S_Mo) (sMlist_L12 : (Nat → Int32)) (sMnext_L12 : (Nat → Int32)) (sMend_L12 : (Nat → Int32)) (sMbegin_L12 : (Nat → Int32)) (sMleft_L12 : (Nat → Int32)) (sMturn_L12 : (Nat → Int32)) (sMfoundOps_L12 : (Nat → Int32)) (n : Nat) (x1_L12 : Int32) (sMops_L12 : (Nat → Int32)) (H : Heap) (locs : List Loc) (ls : Array Slot), va_P D vwCl (fl [wMo K hMo sMo_L12, wRowI K (fun _ => hMo 6) 17 sMlengths, wRowI K (fun _ => hMo 9) 90 sMlist_L12, wRowI K (fun _ => hMo 10) 90 sMnext_L12, wRowI K (fun _ => hMo 11) 90 sMend_L12, wRowI K (fun _ => hMo 12) 90 sMbegin_L12, wRowI K (fun _ => hMo 13) 90 sMleft_L12, wRowI K (fun _ => hMo 14) 90 sMturn_L12, wRowI K (fun _ => hMo 15) 360 sMfoundOps_L12, wRowI K (fun _ => hMo 16) 4 sMops_L12]) H → va_D A (fl [wMo K hMo sMo_L12, wRowI K (fun _ => hMo 6) 17 sMlengths, wRowI K (fun _ => hMo 9) 90 sMlist_L12, wRowI K (fun _ => hMo 10) 90 sMnext_L12, wRowI K (fun _ => hMo 11) 90 sMend_L12, wRowI K (fun _ => hMo 12) 90 sMbegin_L12, wRowI K (fun _ => hMo 13) 90 sMleft_L12, wRowI K (fun _ => hMo 14) 90 sMturn_L12, wRowI K (fun _ => hMo 15) 360 sMfoundOps_L12, wRowI K (fun _ => hMo 16) 4 sMops_L12]) → va_S A s.heap H locs → lv_has ls 2 [(0, .ref (hMo 0)), (1, .int x1_L12)] → Mod_start_L12 fu sMlengths sMo_L12 sMlist_L12 sMnext_L12 sMend_L12 sMbegin_L12 sMleft_L12 sMturn_L12 sMfoundOps_L12 (fun zMops => Mod_start_j31 fu sMlengths sMo_L12 sMlist_L12 sMnext_L12 sMend_L12 sMbegin_L12 sMleft_L12 sMturn_L12 sMfoundOps_L12 zMops) n x1_L12 sMops_L12 = some ((sMo', sMlist', sMnext', sMend', sMbegin', sMleft', sMturn', sMfoundOps', sMops')) → W p l e rm_Mod_start s m ([.ref (hMo 0)] : List Value).toArray below meth c H locs 0 0 (Qv below ([.ref (hMo 0)] : List Value).toArray s D K A (fl [wMo K hMo sMo', wRowI K (fun _ => hMo 6) 17 sMlengths, wRowI K (fun _ => hMo 9) 90 sMlist', wRowI K (fun _ => hMo 10) 90 sMnext', wRowI K (fun _ => hMo 11) 90 sMend', wRowI K (fun _ => hMo 12) 90 sMbegin', wRowI K (fun _ => hMo 13) 90 sMleft', wRowI K (fun _ => hMo 14) 90 sMturn', wRowI K (fun _ => hMo 15) 360 sMfoundOps', wRowI K (fun _ => hMo 16) 4 sMops'])) (F0 m 12 ls []) := by
    intro sMo_L12 sMlist_L12 sMnext_L12 sMend_L12 sMbegin_L12 sMleft_L12 sMturn_L12 sMfoundOps_L12 n
    induction n with
    | zero =>
      intro x1_L12 sMops_L12 H locs ls hP hD hS hl hf
      exact absurd hf (fun h => nomatch h)
    | succ n_12 ih_12 =>
      intro x1_L12 sMops_L12 H locs ls hP hD hS hl hf
      refine lv_iload_n (pc := 12) hx hb d_Mod_start_12 rfl (lv_at hl 1 rfl) ?_
      refine lv_iconst (v := 4) (pc := 13) hx hb d_Mod_start_13 (by decide) ?_
      refine lv_icmp_ge (tgt := 31) (pc := 14) hx hb d_Mod_start_14 (by decide) (fun c5 => ?_) (fun c5 => ?_)
      · replace hf := o_t c5 hf
        exact J31 sMo_L12 sMlist_L12 sMnext_L12 sMend_L12 sMbegin_L12 sMleft_L12 sMturn_L12 sMfoundOps_L12 sMops_L12 H locs ls hP hD hS (lv_sub hl [0] rfl) hf
      · replace hf := o_f c5 hf
        refine lv_aload_n (pc := 17) hx hb d_Mod_start_17 rfl (lv_at hl 0 rfl) ?_
        refine va_get (D := D) (ci := 10) (v := .ref (hMo 16)) (C := R_Mod) (T := T_Mod) (N := 61) (pc := 18) hx hb hts (fun w h => List.mem_cons_of_mem _ (in_Mod w h)) hown hK hP _ (fl_at 0 0 rfl rfl) rfl 20 (by decide) (hts _ (List.mem_cons_of_mem _ tw_1113)) (fun _ h9 => h9) rfl d_Mod_start_18 ?_
        refine lv_iload_n (pc := 21) hx hb d_Mod_start_21 rfl (lv_at hl 1 rfl) ?_
        refine lv_bipush (v := (-100)) (pc := 22) hx hb d_Mod_start_22 (by decide) ?_
        obtain ⟨hi3, hf⟩ := o_gi_e hf
        refine va_iast (D := D) (pc := 24) hx hb hK hP hD hS _ 0 (fl_at 9 0 rfl rfl) rfl hi3 d_Mod_start_24 (fun H locs hP hD hS => ?_)
        obtain ⟨sMops_4, esMops_4, hf⟩ := o_lt_e hf
        have hP : va_P D vwCl (fl [wMo K hMo sMo_L12, wRowI K (fun _ => hMo 6) 17 sMlengths, wRowI K (fun _ => hMo 9) 90 sMlist_L12, wRowI K (fun _ => hMo 10) 90 sMnext_L12, wRowI K (fun _ => hMo 11) 90 sMend_L12, wRowI K (fun _ => hMo 12) 90 sMbegin_L12, wRowI K (fun _ => hMo 13) 90 sMleft_L12, wRowI K (fun _ => hMo 14) 90 sMturn_L12, wRowI K (fun _ => hMo 15) 360 sMfoundOps_L12, wRowI K (fun _ => hMo 16) 4 sMops_4]) H := by rw [esMops_4]; exact fl_P 9 0 rfl (Nat.le_of_ble_eq_true rfl) rfl rfl hP
        have hD : va_D A (fl [wMo K hMo sMo_L12, wRowI K (fun _ => hMo 6) 17 sMlengths, wRowI K (fun _ => hMo 9) 90 sMlist_L12, wRowI K (fun _ => hMo 10) 90 sMnext_L12, wRowI K (fun _ => hMo 11) 90 sMend_L12, wRowI K (fun _ => hMo 12) 90 sMbegin_L12, wRowI K (fun _ => hMo 13) 90 sMleft_L12, wRowI K (fun _ => hMo 14) 90 sMturn_L12, wRowI K (fun _ => hMo 15) 360 sMfoundOps_L12, wRowI K (fun _ => hMo 16) 4 sMops_4]) := by rw [esMops_4]; exact fl_D 9 0 rfl (Nat.le_of_ble_eq_true rfl) rfl rfl hD
        refine lv_iinc (v := x1_L12 + 1) (lv' := [(1, .int (x1_L12 + 1)), (0, .ref (hMo 0))]) (pc := 25) hx hb d_Mod_start_25 hl (k := 1) rfl rfl (by decide) rfl (fun ls hl => ?_)
        refine lv_goto (tgt := 12) (pc := 28) hx hb d_Mod_start_28 (by decide) ?_
        exact ih_12 (x1_L12 + 1) sMops_4 H locs ls hP hD hS (lv_sub hl [1, 0] rfl) hf
  exact L12 sMo_2 sMlist sMnext sMend sMbegin sMleft sMturn sMfoundOps fu 0 sMops H locs ls hP hD hS (lv_sub hl [1, 0] rfl) hf
def Mod_wrong (a0 : Int32) (a1 : Int32) (sMo : S_Mo) : Option (S_Mo) := if (Mo_fault sMo) ≤ 0 then o_lt (Mo_set_fault sMo a0) fun sMo_1 => (o_lt (Mo_set_place sMo_1 a1) fun sMo_2 => (some sMo_2)) else some sMo
abbrev rm_Mod_wrong : Room := { frames := 0, cells := 0, slots := 0, locals := 0 }
set_option maxHeartbeats 4000000 in
set_option maxRecDepth 100000 in
theorem c_Mod_wrong (l : Launch) (D : va_G) (K : Nat → ClassId) (hMo : Nat → Nat) (sMo : S_Mo) (a0 : Int32) (a1 : Int32) (sMo' : S_Mo) (hf : Mod_wrong a0 a1 sMo = some sMo') : mv l D K y_Mod_wrong ws_Mod_wrong rm_Mod_wrong [.ref (hMo 0), .int a0, .int a1] (fl [wMo K hMo sMo]) (fl [wMo K hMo sMo']) := by
  refine mv_of (cc := b_Mod_wrong) (maxL := 3) (own := "ObsMessagesModel") (by decide) rfl rfl (Nat.le_of_ble_eq_true rfl) ?_
  intro p e s m below meth c A ls hC hP hD hS hl
  obtain ⟨hx, hb, hml, hown, hts, hr, hlocks, hK, hF, hA⟩ := hC
  have hP : va_P D vwCl (fl [wMo K hMo sMo]) s.heap := hP
  have hl : lv_has ls 3 [(0, .ref (hMo 0)), (1, .int a0), (2, .int a1)] := hl
  suffices hW : ∀ (H : Heap) (locs : List Loc), va_P D vwCl (fl [wMo K hMo sMo]) H → va_S A s.heap H locs → W p l e rm_Mod_wrong s m ([.ref (hMo 0), .int a0, .int a1] : List Value).toArray below meth c H locs 0 0 (Qv below ([.ref (hMo 0), .int a0, .int a1] : List Value).toArray s D K A (fl [wMo K hMo sMo'])) (F0 m 0 ls []) from hW s.heap [] hP hS
  clear hP hS
  intro H locs hP hS
  refine lv_aload_n (pc := 0) hx hb d_Mod_wrong_0 rfl (lv_at hl 0 rfl) ?_
  refine va_get (D := D) (ci := 10) (v := .int (Mo_fault sMo)) (C := R_Mod) (T := T_Mod) (N := 61) (pc := 1) hx hb hts (fun w h => List.mem_cons_of_mem _ (in_Mod w h)) hown hK hP _ (fl_at 0 0 rfl rfl) rfl 8 (by decide) (hts _ (List.mem_cons_of_mem _ tw_1101)) (fun _ h9 => h9) rfl d_Mod_wrong_1 ?_
  refine lv_if_le (tgt := 8) (pc := 4) hx hb d_Mod_wrong_4 (by decide) (fun c3 => ?_) (fun c3 => ?_)
  · replace hf := o_t c3 hf
    refine lv_aload_n (pc := 8) hx hb d_Mod_wrong_8 rfl (lv_at hl 0 rfl) ?_
    refine lv_iload_n (pc := 9) hx hb d_Mod_wrong_9 rfl (lv_at hl 1 rfl) ?_
    refine va_put (D := D) (ci := 10) (v := .int a0) (ty := .int) (C := R_Mod) (T := T_Mod) (N := 61) (pc := 10) hx hb hts (fun w h => List.mem_cons_of_mem _ (in_Mod w h)) ty_Mod ty_Mod_ok nm_Mod hown hK hP hD hS _ (fl_at 0 0 rfl rfl) rfl 8 (by decide) (hts _ (List.mem_cons_of_mem _ tw_1101)) (fun _ h9 => h9) rfl (by decide +kernel) rfl rfl (Nat.le_of_ble_eq_true rfl) d_Mod_wrong_10 (fun H locs hP hD hS => ?_)
    obtain ⟨sMo_1, esMo_1, hf⟩ := o_lt_e hf
    have hP : va_P D vwCl (fl [wMo K hMo sMo_1]) H := by rw [esMo_1]; exact fl_P 0 0 rfl (Nat.le_of_ble_eq_true rfl) rfl rfl hP
    have hD : va_D A (fl [wMo K hMo sMo_1]) := by rw [esMo_1]; exact fl_D 0 0 rfl (Nat.le_of_ble_eq_true rfl) rfl rfl hD
    refine lv_aload_n (pc := 13) hx hb d_Mod_wrong_13 rfl (lv_at hl 0 rfl) ?_
    refine lv_iload_n (pc := 14) hx hb d_Mod_wrong_14 rfl (lv_at hl 2 rfl) ?_
    refine va_put (D := D) (ci := 10) (v := .int a1) (ty := .int) (C := R_Mod) (T := T_Mod) (N := 61) (pc := 15) hx hb hts (fun w h => List.mem_cons_of_mem _ (in_Mod w h)) ty_Mod ty_Mod_ok nm_Mod hown hK hP hD hS _ (fl_at 0 0 rfl rfl) rfl 9 (by decide) (hts _ (List.mem_cons_of_mem _ tw_1102)) (fun _ h9 => h9) rfl (by decide +kernel) rfl rfl (Nat.le_of_ble_eq_true rfl) d_Mod_wrong_15 (fun H locs hP hD hS => ?_)
    obtain ⟨sMo_2, esMo_2, hf⟩ := o_lt_e hf
    have hP : va_P D vwCl (fl [wMo K hMo sMo_2]) H := by rw [esMo_2]; exact fl_P 0 0 rfl (Nat.le_of_ble_eq_true rfl) rfl rfl hP
    have hD : va_D A (fl [wMo K hMo sMo_2]) := by rw [esMo_2]; exact fl_D 0 0 rfl (Nat.le_of_ble_eq_true rfl) rfl rfl hD
    cases hf
    exact ret_v hx hb hr hlocks hK hP hS d_Mod_wrong_18
  · replace hf := o_f c3 hf
    cases hf
    exact ret_v hx hb hr hlocks hK hP hS d_Mod_wrong_7
def Mod_fresh (sMo : S_Mo) : Option (S_Mo) := o_lt (Mo_set_fault sMo 0) fun sMo_1 => (o_lt (Mo_set_place sMo_1 ((-1))) fun sMo_2 => (some sMo_2))
abbrev rm_Mod_fresh : Room := { frames := 0, cells := 0, slots := 0, locals := 0 }
set_option maxHeartbeats 4000000 in
set_option maxRecDepth 100000 in
theorem c_Mod_fresh (l : Launch) (D : va_G) (K : Nat → ClassId) (hMo : Nat → Nat) (sMo : S_Mo) (sMo' : S_Mo) (hf : Mod_fresh sMo = some sMo') : mv l D K y_Mod_fresh ws_Mod_fresh rm_Mod_fresh [.ref (hMo 0)] (fl [wMo K hMo sMo]) (fl [wMo K hMo sMo']) := by
  refine mv_of (cc := b_Mod_fresh) (maxL := 1) (own := "ObsMessagesModel") (by decide) rfl rfl (Nat.le_of_ble_eq_true rfl) ?_
  intro p e s m below meth c A ls hC hP hD hS hl
  obtain ⟨hx, hb, hml, hown, hts, hr, hlocks, hK, hF, hA⟩ := hC
  have hP : va_P D vwCl (fl [wMo K hMo sMo]) s.heap := hP
  have hl : lv_has ls 1 [(0, .ref (hMo 0))] := hl
  suffices hW : ∀ (H : Heap) (locs : List Loc), va_P D vwCl (fl [wMo K hMo sMo]) H → va_S A s.heap H locs → W p l e rm_Mod_fresh s m ([.ref (hMo 0)] : List Value).toArray below meth c H locs 0 0 (Qv below ([.ref (hMo 0)] : List Value).toArray s D K A (fl [wMo K hMo sMo'])) (F0 m 0 ls []) from hW s.heap [] hP hS
  clear hP hS
  intro H locs hP hS
  refine lv_aload_n (pc := 0) hx hb d_Mod_fresh_0 rfl (lv_at hl 0 rfl) ?_
  refine lv_iconst (v := 0) (pc := 1) hx hb d_Mod_fresh_1 (by decide) ?_
  refine va_put (D := D) (ci := 10) (v := .int 0) (ty := .int) (C := R_Mod) (T := T_Mod) (N := 61) (pc := 2) hx hb hts (fun w h => List.mem_cons_of_mem _ (in_Mod w h)) ty_Mod ty_Mod_ok nm_Mod hown hK hP hD hS _ (fl_at 0 0 rfl rfl) rfl 8 (by decide) (hts _ (List.mem_cons_of_mem _ tw_1101)) (fun _ h9 => h9) rfl (by decide +kernel) rfl rfl (Nat.le_of_ble_eq_true rfl) d_Mod_fresh_2 (fun H locs hP hD hS => ?_)
  obtain ⟨sMo_1, esMo_1, hf⟩ := o_lt_e hf
  have hP : va_P D vwCl (fl [wMo K hMo sMo_1]) H := by rw [esMo_1]; exact fl_P 0 0 rfl (Nat.le_of_ble_eq_true rfl) rfl rfl hP
  have hD : va_D A (fl [wMo K hMo sMo_1]) := by rw [esMo_1]; exact fl_D 0 0 rfl (Nat.le_of_ble_eq_true rfl) rfl rfl hD
  refine lv_aload_n (pc := 5) hx hb d_Mod_fresh_5 rfl (lv_at hl 0 rfl) ?_
  refine lv_iconst (v := (-1)) (pc := 6) hx hb d_Mod_fresh_6 (by decide) ?_
  refine va_put (D := D) (ci := 10) (v := .int ((-1))) (ty := .int) (C := R_Mod) (T := T_Mod) (N := 61) (pc := 7) hx hb hts (fun w h => List.mem_cons_of_mem _ (in_Mod w h)) ty_Mod ty_Mod_ok nm_Mod hown hK hP hD hS _ (fl_at 0 0 rfl rfl) rfl 9 (by decide) (hts _ (List.mem_cons_of_mem _ tw_1102)) (fun _ h9 => h9) rfl (by decide +kernel) rfl rfl (Nat.le_of_ble_eq_true rfl) d_Mod_fresh_7 (fun H locs hP hD hS => ?_)
  obtain ⟨sMo_2, esMo_2, hf⟩ := o_lt_e hf
  have hP : va_P D vwCl (fl [wMo K hMo sMo_2]) H := by rw [esMo_2]; exact fl_P 0 0 rfl (Nat.le_of_ble_eq_true rfl) rfl rfl hP
  have hD : va_D A (fl [wMo K hMo sMo_2]) := by rw [esMo_2]; exact fl_D 0 0 rfl (Nat.le_of_ble_eq_true rfl) rfl rfl hD
  cases hf
  exact ret_v hx hb hr hlocks hK hP hS d_Mod_fresh_10
def Mod_leavesOther_j37 (fu : Nat) (sMo : S_Mo) (sMfoundOps : (Nat → Int32)) (sMops : (Nat → Int32)) (kc_4 : Int32 → Int32 → Option (Int32)) (x1_L4 : Int32) (x3_j37 : Int32) (t0_j37 : Int32) : Option (Int32) := kc_4 t0_j37 (x3_j37 + 1)
def Mod_leavesOther_j32 (fu : Nat) (sMo : S_Mo) (sMfoundOps : (Nat → Int32)) (sMops : (Nat → Int32)) (kc_4 : Int32 → Int32 → Option (Int32)) (x1_L4 : Int32) (x3_j32 : Int32) : Option (Int32) := Mod_leavesOther_j37 fu sMo sMfoundOps sMops kc_4 x1_L4 x3_j32 1
def Mod_leavesOther_L4 (fu : Nat) (sMo : S_Mo) (sMfoundOps : (Nat → Int32)) (sMops : (Nat → Int32)) (x1_L4 : Int32) : Nat → Int32 → Int32 → Option (Int32)
  | 0, _, _ => none
  | n + 1, x2_L4, x3_L4 => if 4 ≤ x3_L4 then o_gd (o_bool x2_L4) (some x2_L4) else if x2_L4 = 0 then o_gd (o_in x3_L4 4) (o_gd (o_in ((4 * x1_L4) + x3_L4) 360) (if (sMops (x3_L4 : Int32).toNatClampNeg) = (sMfoundOps ((4 * x1_L4) + x3_L4 : Int32).toNatClampNeg) then Mod_leavesOther_j37 fu sMo sMfoundOps sMops (fun v0 v1 => Mod_leavesOther_L4 fu sMo sMfoundOps sMops x1_L4 n v0 v1) x1_L4 x3_L4 0 else Mod_leavesOther_j32 fu sMo sMfoundOps sMops (fun v0 v1 => Mod_leavesOther_L4 fu sMo sMfoundOps sMops x1_L4 n v0 v1) x1_L4 x3_L4)) else Mod_leavesOther_j32 fu sMo sMfoundOps sMops (fun v0 v1 => Mod_leavesOther_L4 fu sMo sMfoundOps sMops x1_L4 n v0 v1) x1_L4 x3_L4
def Mod_leavesOther (fu : Nat) (sMo : S_Mo) (sMfoundOps : (Nat → Int32)) (sMops : (Nat → Int32)) (a0 : Int32) : Option (Int32) := Mod_leavesOther_L4 fu sMo sMfoundOps sMops a0 fu 0 0
abbrev rm_Mod_leavesOther : Room := { frames := 0, cells := 0, slots := 0, locals := 0 }
set_option maxHeartbeats 4000000 in
set_option maxRecDepth 100000 in
theorem c_Mod_leavesOther (l : Launch) (D : va_G) (K : Nat → ClassId) (fu : Nat) (hMo : Nat → Nat) (sMo : S_Mo) (sMfoundOps : (Nat → Int32)) (sMops : (Nat → Int32)) (a0 : Int32) (r : Int32) (hf : Mod_leavesOther fu sMo sMfoundOps sMops a0 = some r) : mi l D K y_Mod_leavesOther ws_Mod_leavesOther rm_Mod_leavesOther [.ref (hMo 0), .int a0] (fl [wMo K hMo sMo, wRowI K (fun _ => hMo 15) 360 sMfoundOps, wRowI K (fun _ => hMo 16) 4 sMops]) (fl [wMo K hMo sMo, wRowI K (fun _ => hMo 15) 360 sMfoundOps, wRowI K (fun _ => hMo 16) 4 sMops]) r := by
  refine mi_of (cc := b_Mod_leavesOther) (maxL := 4) (own := "ObsMessagesModel") (by decide) rfl rfl (Nat.le_of_ble_eq_true rfl) ?_
  intro p e s m below meth c A ls hC hP hD hS hl
  obtain ⟨hx, hb, hml, hown, hts, hr, hlocks, hK, hF, hA⟩ := hC
  have hP : va_P D vwCl (fl [wMo K hMo sMo, wRowI K (fun _ => hMo 15) 360 sMfoundOps, wRowI K (fun _ => hMo 16) 4 sMops]) s.heap := hP
  have hl : lv_has ls 4 [(0, .ref (hMo 0)), (1, .int a0)] := hl
  suffices hW : ∀ (H : Heap) (locs : List Loc), va_P D vwCl (fl [wMo K hMo sMo, wRowI K (fun _ => hMo 15) 360 sMfoundOps, wRowI K (fun _ => hMo 16) 4 sMops]) H → va_S A s.heap H locs → W p l e rm_Mod_leavesOther s m ([.ref (hMo 0), .int a0] : List Value).toArray below meth c H locs 0 0 (Qi below ([.ref (hMo 0), .int a0] : List Value).toArray s D K A (fl [wMo K hMo sMo, wRowI K (fun _ => hMo 15) 360 sMfoundOps, wRowI K (fun _ => hMo 16) 4 sMops]) r) (F0 m 0 ls []) from hW s.heap [] hP hS
  clear hP hS
  intro H locs hP hS
  refine lv_iconst (v := 0) (pc := 0) hx hb d_Mod_leavesOther_0 (by decide) ?_
  refine lv_istore_n (lv' := [(2, .int 0), (0, .ref (hMo 0)), (1, .int a0)]) (pc := 1) hx hb d_Mod_leavesOther_1 rfl hl (by decide) rfl (fun ls hl => ?_)
  refine lv_iconst (v := 0) (pc := 2) hx hb d_Mod_leavesOther_2 (by decide) ?_
  refine lv_istore_n (lv' := [(3, .int 0), (2, .int 0), (0, .ref (hMo 0)), (1, .int a0)]) (pc := 3) hx hb d_Mod_leavesOther_3 rfl hl (by decide) rfl (fun ls hl => ?_)
  have L4 : ∀ (x1_L4 : Int32) (n : Nat) (x2_L4 : Int32) (x3_L4 : Int32) (H : Heap) (locs : List Loc) (ls : Array Slot), va_P D vwCl (fl [wMo K hMo sMo, wRowI K (fun _ => hMo 15) 360 sMfoundOps, wRowI K (fun _ => hMo 16) 4 sMops]) H → va_D A (fl [wMo K hMo sMo, wRowI K (fun _ => hMo 15) 360 sMfoundOps, wRowI K (fun _ => hMo 16) 4 sMops]) → va_S A s.heap H locs → lv_has ls 4 [(0, .ref (hMo 0)), (1, .int x1_L4), (2, .int x2_L4), (3, .int x3_L4)] → Mod_leavesOther_L4 fu sMo sMfoundOps sMops x1_L4 n x2_L4 x3_L4 = some r → W p l e rm_Mod_leavesOther s m ([.ref (hMo 0), .int a0] : List Value).toArray below meth c H locs 0 0 (Qi below ([.ref (hMo 0), .int a0] : List Value).toArray s D K A (fl [wMo K hMo sMo, wRowI K (fun _ => hMo 15) 360 sMfoundOps, wRowI K (fun _ => hMo 16) 4 sMops]) r) (F0 m 4 ls []) := by
    intro x1_L4 n
    induction n with
    | zero =>
      intro x2_L4 x3_L4 H locs ls hP hD hS hl hf
      exact absurd hf (fun h => nomatch h)
    | succ n_4 ih_4 =>
      intro x2_L4 x3_L4 H locs ls hP hD hS hl hf
      have J37 : ∀ (x3_j37 : Int32) (t0_j37 : Int32) (H : Heap) (locs : List Loc) (ls : Array Slot), va_P D vwCl (fl [wMo K hMo sMo, wRowI K (fun _ => hMo 15) 360 sMfoundOps, wRowI K (fun _ => hMo 16) 4 sMops]) H → va_D A (fl [wMo K hMo sMo, wRowI K (fun _ => hMo 15) 360 sMfoundOps, wRowI K (fun _ => hMo 16) 4 sMops]) → va_S A s.heap H locs → lv_has ls 4 [(0, .ref (hMo 0)), (1, .int x1_L4), (3, .int x3_j37)] → Mod_leavesOther_j37 fu sMo sMfoundOps sMops (fun v0 v1 => Mod_leavesOther_L4 fu sMo sMfoundOps sMops x1_L4 n_4 v0 v1) x1_L4 x3_j37 t0_j37 = some r → W p l e rm_Mod_leavesOther s m ([.ref (hMo 0), .int a0] : List Value).toArray below meth c H locs 0 0 (Qi below ([.ref (hMo 0), .int a0] : List Value).toArray s D K A (fl [wMo K hMo sMo, wRowI K (fun _ => hMo 15) 360 sMfoundOps, wRowI K (fun _ => hMo 16) 4 sMops]) r) (F0 m 37 ls [.int t0_j37]) := by
        intro x3_j37 t0_j37 H locs ls hP hD hS hl hf
        refine lv_istore_n (lv' := [(2, .int t0_j37), (0, .ref (hMo 0)), (1, .int x1_L4), (3, .int x3_j37)]) (pc := 37) hx hb d_Mod_leavesOther_37 rfl hl (by decide) rfl (fun ls hl => ?_)
        refine lv_iinc (v := x3_j37 + 1) (lv' := [(3, .int (x3_j37 + 1)), (2, .int t0_j37), (0, .ref (hMo 0)), (1, .int x1_L4)]) (pc := 38) hx hb d_Mod_leavesOther_38 hl (k := 3) rfl rfl (by decide) rfl (fun ls hl => ?_)
        refine lv_goto (tgt := 4) (pc := 41) hx hb d_Mod_leavesOther_41 (by decide) ?_
        exact ih_4 t0_j37 (x3_j37 + 1) H locs ls hP hD hS (lv_sub hl [2, 3, 1, 0] rfl) hf
      have J32 : ∀ (x3_j32 : Int32) (H : Heap) (locs : List Loc) (ls : Array Slot), va_P D vwCl (fl [wMo K hMo sMo, wRowI K (fun _ => hMo 15) 360 sMfoundOps, wRowI K (fun _ => hMo 16) 4 sMops]) H → va_D A (fl [wMo K hMo sMo, wRowI K (fun _ => hMo 15) 360 sMfoundOps, wRowI K (fun _ => hMo 16) 4 sMops]) → va_S A s.heap H locs → lv_has ls 4 [(0, .ref (hMo 0)), (1, .int x1_L4), (3, .int x3_j32)] → Mod_leavesOther_j32 fu sMo sMfoundOps sMops (fun v0 v1 => Mod_leavesOther_L4 fu sMo sMfoundOps sMops x1_L4 n_4 v0 v1) x1_L4 x3_j32 = some r → W p l e rm_Mod_leavesOther s m ([.ref (hMo 0), .int a0] : List Value).toArray below meth c H locs 0 0 (Qi below ([.ref (hMo 0), .int a0] : List Value).toArray s D K A (fl [wMo K hMo sMo, wRowI K (fun _ => hMo 15) 360 sMfoundOps, wRowI K (fun _ => hMo 16) 4 sMops]) r) (F0 m 32 ls []) := by
        intro x3_j32 H locs ls hP hD hS hl hf
        refine lv_iconst (v := 1) (pc := 32) hx hb d_Mod_leavesOther_32 (by decide) ?_
        refine lv_goto (tgt := 37) (pc := 33) hx hb d_Mod_leavesOther_33 (by decide) ?_
        exact J37 x3_j32 1 H locs ls hP hD hS (lv_sub hl [0, 1, 2] rfl) hf
      refine lv_iload_n (pc := 4) hx hb d_Mod_leavesOther_4 rfl (lv_at hl 3 rfl) ?_
      refine lv_iconst (v := 4) (pc := 5) hx hb d_Mod_leavesOther_5 (by decide) ?_
      refine lv_icmp_ge (tgt := 44) (pc := 6) hx hb d_Mod_leavesOther_6 (by decide) (fun c5 => ?_) (fun c5 => ?_)
      · replace hf := o_t c5 hf
        refine lv_iload_n (pc := 44) hx hb d_Mod_leavesOther_44 rfl (lv_at hl 2 rfl) ?_
        obtain ⟨hbz, hf⟩ := o_gb_e hf
        cases hf
        exact ret_z hx hb hr hlocks hK hP hS hbz d_Mod_leavesOther_45
      · replace hf := o_f c5 hf
        refine lv_iload_n (pc := 9) hx hb d_Mod_leavesOther_9 rfl (lv_at hl 2 rfl) ?_
        refine lv_if_ne (tgt := 32) (pc := 10) hx hb d_Mod_leavesOther_10 (by decide) (fun c4 => ?_) (fun c4 => ?_)
        · replace hf := o_f c4 hf
          exact J32 x3_L4 H locs ls hP hD hS (lv_sub hl [0, 1, 3] rfl) hf
        · replace hf := o_t c4 hf
          refine lv_aload_n (pc := 13) hx hb d_Mod_leavesOther_13 rfl (lv_at hl 0 rfl) ?_
          refine va_get (D := D) (ci := 10) (v := .ref (hMo 16)) (C := R_Mod) (T := T_Mod) (N := 61) (pc := 14) hx hb hts (fun w h => List.mem_cons_of_mem _ (in_Mod w h)) hown hK hP _ (fl_at 0 0 rfl rfl) rfl 20 (by decide) (hts _ (List.mem_cons_of_mem _ tw_1113)) (fun _ h9 => h9) rfl d_Mod_leavesOther_14 ?_
          refine lv_iload_n (pc := 17) hx hb d_Mod_leavesOther_17 rfl (lv_at hl 3 rfl) ?_
          obtain ⟨hi1, hf⟩ := o_gi_e hf
          refine va_iald (D := D) (pc := 18) hx hb hK hP _ 0 (fl_at 2 0 rfl rfl) rfl hi1 d_Mod_leavesOther_18 ?_
          refine lv_aload_n (pc := 19) hx hb d_Mod_leavesOther_19 rfl (lv_at hl 0 rfl) ?_
          refine va_get (D := D) (ci := 10) (v := .ref (hMo 15)) (C := R_Mod) (T := T_Mod) (N := 61) (pc := 20) hx hb hts (fun w h => List.mem_cons_of_mem _ (in_Mod w h)) hown hK hP _ (fl_at 0 0 rfl rfl) rfl 19 (by decide) (hts _ (List.mem_cons_of_mem _ tw_1112)) (fun _ h9 => h9) rfl d_Mod_leavesOther_20 ?_
          refine lv_iconst (v := 4) (pc := 23) hx hb d_Mod_leavesOther_23 (by decide) ?_
          refine lv_iload_n (pc := 24) hx hb d_Mod_leavesOther_24 rfl (lv_at hl 1 rfl) ?_
          refine lv_imul (pc := 25) hx hb d_Mod_leavesOther_25 ?_
          refine lv_iload_n (pc := 26) hx hb d_Mod_leavesOther_26 rfl (lv_at hl 3 rfl) ?_
          refine lv_iadd (pc := 27) hx hb d_Mod_leavesOther_27 ?_
          obtain ⟨hi2, hf⟩ := o_gi_e hf
          refine va_iald (D := D) (pc := 28) hx hb hK hP _ 0 (fl_at 1 0 rfl rfl) rfl hi2 d_Mod_leavesOther_28 ?_
          refine lv_icmp_eq (tgt := 36) (pc := 29) hx hb d_Mod_leavesOther_29 (by decide) (fun c3 => ?_) (fun c3 => ?_)
          · replace hf := o_t c3 hf
            refine lv_iconst (v := 0) (pc := 36) hx hb d_Mod_leavesOther_36 (by decide) ?_
            exact J37 x3_L4 0 H locs ls hP hD hS (lv_sub hl [0, 1, 3] rfl) hf
          · replace hf := o_f c3 hf
            exact J32 x3_L4 H locs ls hP hD hS (lv_sub hl [0, 1, 3] rfl) hf
  exact L4 a0 fu 0 0 H locs ls hP hD hS (lv_sub hl [2, 3, 1, 0] rfl) hf
def Mod_sequences_j40 (fu : Nat) (sMo : S_Mo) (sMlist : (Nat → Int32)) (sMturn : (Nat → Int32)) (kc_4 : Int32 → Int32 → Option (Int32)) (x1_L4 : Int32) (x2_j40 : Int32) (x3_j40 : Int32) : Option (Int32) := kc_4 x2_j40 (x3_j40 + 1)
def Mod_sequences_L4 (fu : Nat) (sMo : S_Mo) (sMlist : (Nat → Int32)) (sMturn : (Nat → Int32)) (x1_L4 : Int32) : Nat → Int32 → Int32 → Option (Int32)
  | 0, _, _ => none
  | n + 1, x2_L4, x3_L4 => if (Mo_open sMo) ≤ x3_L4 then some x2_L4 else o_gd (o_in x3_L4 90) (if (sMturn (x3_L4 : Int32).toNatClampNeg) < 0 then o_gd (o_in x3_L4 90) (if (sMlist (x3_L4 : Int32).toNatClampNeg) = x1_L4 then some 100 else Mod_sequences_j40 fu sMo sMlist sMturn (fun v0 v1 => Mod_sequences_L4 fu sMo sMlist sMturn x1_L4 n v0 v1) x1_L4 (x2_L4 + 1) x3_L4) else Mod_sequences_j40 fu sMo sMlist sMturn (fun v0 v1 => Mod_sequences_L4 fu sMo sMlist sMturn x1_L4 n v0 v1) x1_L4 x2_L4 x3_L4)
def Mod_sequences (fu : Nat) (sMo : S_Mo) (sMlist : (Nat → Int32)) (sMturn : (Nat → Int32)) (a0 : Int32) : Option (Int32) := Mod_sequences_L4 fu sMo sMlist sMturn a0 fu 0 1
abbrev rm_Mod_sequences : Room := { frames := 0, cells := 0, slots := 0, locals := 0 }
set_option maxHeartbeats 4000000 in
set_option maxRecDepth 100000 in
theorem c_Mod_sequences (l : Launch) (D : va_G) (K : Nat → ClassId) (fu : Nat) (hMo : Nat → Nat) (sMo : S_Mo) (sMlist : (Nat → Int32)) (sMturn : (Nat → Int32)) (a0 : Int32) (r : Int32) (hf : Mod_sequences fu sMo sMlist sMturn a0 = some r) : mi l D K y_Mod_sequences ws_Mod_sequences rm_Mod_sequences [.ref (hMo 0), .int a0] (fl [wMo K hMo sMo, wRowI K (fun _ => hMo 9) 90 sMlist, wRowI K (fun _ => hMo 14) 90 sMturn]) (fl [wMo K hMo sMo, wRowI K (fun _ => hMo 9) 90 sMlist, wRowI K (fun _ => hMo 14) 90 sMturn]) r := by
  refine mi_of (cc := b_Mod_sequences) (maxL := 4) (own := "ObsMessagesModel") (by decide) rfl rfl (Nat.le_of_ble_eq_true rfl) ?_
  intro p e s m below meth c A ls hC hP hD hS hl
  obtain ⟨hx, hb, hml, hown, hts, hr, hlocks, hK, hF, hA⟩ := hC
  have hP : va_P D vwCl (fl [wMo K hMo sMo, wRowI K (fun _ => hMo 9) 90 sMlist, wRowI K (fun _ => hMo 14) 90 sMturn]) s.heap := hP
  have hl : lv_has ls 4 [(0, .ref (hMo 0)), (1, .int a0)] := hl
  suffices hW : ∀ (H : Heap) (locs : List Loc), va_P D vwCl (fl [wMo K hMo sMo, wRowI K (fun _ => hMo 9) 90 sMlist, wRowI K (fun _ => hMo 14) 90 sMturn]) H → va_S A s.heap H locs → W p l e rm_Mod_sequences s m ([.ref (hMo 0), .int a0] : List Value).toArray below meth c H locs 0 0 (Qi below ([.ref (hMo 0), .int a0] : List Value).toArray s D K A (fl [wMo K hMo sMo, wRowI K (fun _ => hMo 9) 90 sMlist, wRowI K (fun _ => hMo 14) 90 sMturn]) r) (F0 m 0 ls []) from hW s.heap [] hP hS
  clear hP hS
  intro H locs hP hS
  refine lv_iconst (v := 0) (pc := 0) hx hb d_Mod_sequences_0 (by decide) ?_
  refine lv_istore_n (lv' := [(2, .int 0), (0, .ref (hMo 0)), (1, .int a0)]) (pc := 1) hx hb d_Mod_sequences_1 rfl hl (by decide) rfl (fun ls hl => ?_)
  refine lv_iconst (v := 1) (pc := 2) hx hb d_Mod_sequences_2 (by decide) ?_
  refine lv_istore_n (lv' := [(3, .int 1), (2, .int 0), (0, .ref (hMo 0)), (1, .int a0)]) (pc := 3) hx hb d_Mod_sequences_3 rfl hl (by decide) rfl (fun ls hl => ?_)
  have L4 : ∀ (x1_L4 : Int32) (n : Nat) (x2_L4 : Int32) (x3_L4 : Int32) (H : Heap) (locs : List Loc) (ls : Array Slot), va_P D vwCl (fl [wMo K hMo sMo, wRowI K (fun _ => hMo 9) 90 sMlist, wRowI K (fun _ => hMo 14) 90 sMturn]) H → va_D A (fl [wMo K hMo sMo, wRowI K (fun _ => hMo 9) 90 sMlist, wRowI K (fun _ => hMo 14) 90 sMturn]) → va_S A s.heap H locs → lv_has ls 4 [(0, .ref (hMo 0)), (1, .int x1_L4), (2, .int x2_L4), (3, .int x3_L4)] → Mod_sequences_L4 fu sMo sMlist sMturn x1_L4 n x2_L4 x3_L4 = some r → W p l e rm_Mod_sequences s m ([.ref (hMo 0), .int a0] : List Value).toArray below meth c H locs 0 0 (Qi below ([.ref (hMo 0), .int a0] : List Value).toArray s D K A (fl [wMo K hMo sMo, wRowI K (fun _ => hMo 9) 90 sMlist, wRowI K (fun _ => hMo 14) 90 sMturn]) r) (F0 m 4 ls []) := by
    intro x1_L4 n
    induction n with
    | zero =>
      intro x2_L4 x3_L4 H locs ls hP hD hS hl hf
      exact absurd hf (fun h => nomatch h)
    | succ n_4 ih_4 =>
      intro x2_L4 x3_L4 H locs ls hP hD hS hl hf
      have J40 : ∀ (x2_j40 : Int32) (x3_j40 : Int32) (H : Heap) (locs : List Loc) (ls : Array Slot), va_P D vwCl (fl [wMo K hMo sMo, wRowI K (fun _ => hMo 9) 90 sMlist, wRowI K (fun _ => hMo 14) 90 sMturn]) H → va_D A (fl [wMo K hMo sMo, wRowI K (fun _ => hMo 9) 90 sMlist, wRowI K (fun _ => hMo 14) 90 sMturn]) → va_S A s.heap H locs → lv_has ls 4 [(0, .ref (hMo 0)), (1, .int x1_L4), (2, .int x2_j40), (3, .int x3_j40)] → Mod_sequences_j40 fu sMo sMlist sMturn (fun v0 v1 => Mod_sequences_L4 fu sMo sMlist sMturn x1_L4 n_4 v0 v1) x1_L4 x2_j40 x3_j40 = some r → W p l e rm_Mod_sequences s m ([.ref (hMo 0), .int a0] : List Value).toArray below meth c H locs 0 0 (Qi below ([.ref (hMo 0), .int a0] : List Value).toArray s D K A (fl [wMo K hMo sMo, wRowI K (fun _ => hMo 9) 90 sMlist, wRowI K (fun _ => hMo 14) 90 sMturn]) r) (F0 m 40 ls []) := by
        intro x2_j40 x3_j40 H locs ls hP hD hS hl hf
        refine lv_iinc (v := x3_j40 + 1) (lv' := [(3, .int (x3_j40 + 1)), (0, .ref (hMo 0)), (1, .int x1_L4), (2, .int x2_j40)]) (pc := 40) hx hb d_Mod_sequences_40 hl (k := 3) rfl rfl (by decide) rfl (fun ls hl => ?_)
        refine lv_goto (tgt := 4) (pc := 43) hx hb d_Mod_sequences_43 (by decide) ?_
        exact ih_4 x2_j40 (x3_j40 + 1) H locs ls hP hD hS (lv_sub hl [1, 2, 3, 0] rfl) hf
      refine lv_iload_n (pc := 4) hx hb d_Mod_sequences_4 rfl (lv_at hl 3 rfl) ?_
      refine lv_aload_n (pc := 5) hx hb d_Mod_sequences_5 rfl (lv_at hl 0 rfl) ?_
      refine va_get (D := D) (ci := 10) (v := .int (Mo_open sMo)) (C := R_Mod) (T := T_Mod) (N := 61) (pc := 6) hx hb hts (fun w h => List.mem_cons_of_mem _ (in_Mod w h)) hown hK hP _ (fl_at 0 0 rfl rfl) rfl 12 (by decide) (hts _ (List.mem_cons_of_mem _ tw_1105)) (fun _ h9 => h9) rfl d_Mod_sequences_6 ?_
      refine lv_icmp_ge (tgt := 46) (pc := 9) hx hb d_Mod_sequences_9 (by decide) (fun c5 => ?_) (fun c5 => ?_)
      · replace hf := o_t c5 hf
        refine lv_iload_n (pc := 46) hx hb d_Mod_sequences_46 rfl (lv_at hl 2 rfl) ?_
        cases hf
        exact ret_i hx hb hr hlocks hK hP hS d_Mod_sequences_47
      · replace hf := o_f c5 hf
        refine lv_aload_n (pc := 12) hx hb d_Mod_sequences_12 rfl (lv_at hl 0 rfl) ?_
        refine va_get (D := D) (ci := 10) (v := .ref (hMo 14)) (C := R_Mod) (T := T_Mod) (N := 61) (pc := 13) hx hb hts (fun w h => List.mem_cons_of_mem _ (in_Mod w h)) hown hK hP _ (fl_at 0 0 rfl rfl) rfl 18 (by decide) (hts _ (List.mem_cons_of_mem _ tw_1111)) (fun _ h9 => h9) rfl d_Mod_sequences_13 ?_
        refine lv_iload_n (pc := 16) hx hb d_Mod_sequences_16 rfl (lv_at hl 3 rfl) ?_
        obtain ⟨hi1, hf⟩ := o_gi_e hf
        refine va_iald (D := D) (pc := 17) hx hb hK hP _ 0 (fl_at 2 0 rfl rfl) rfl hi1 d_Mod_sequences_17 ?_
        refine lv_if_lt (tgt := 24) (pc := 18) hx hb d_Mod_sequences_18 (by decide) (fun c4 => ?_) (fun c4 => ?_)
        · replace hf := o_t c4 hf
          refine lv_iinc (v := x2_L4 + 1) (lv' := [(2, .int (x2_L4 + 1)), (0, .ref (hMo 0)), (1, .int x1_L4), (3, .int x3_L4)]) (pc := 24) hx hb d_Mod_sequences_24 hl (k := 2) rfl rfl (by decide) rfl (fun ls hl => ?_)
          refine lv_aload_n (pc := 27) hx hb d_Mod_sequences_27 rfl (lv_at hl 1 rfl) ?_
          refine va_get (D := D) (ci := 10) (v := .ref (hMo 9)) (C := R_Mod) (T := T_Mod) (N := 61) (pc := 28) hx hb hts (fun w h => List.mem_cons_of_mem _ (in_Mod w h)) hown hK hP _ (fl_at 0 0 rfl rfl) rfl 13 (by decide) (hts _ (List.mem_cons_of_mem _ tw_1106)) (fun _ h9 => h9) rfl d_Mod_sequences_28 ?_
          refine lv_iload_n (pc := 31) hx hb d_Mod_sequences_31 rfl (lv_at hl 3 rfl) ?_
          obtain ⟨hi2, hf⟩ := o_gi_e hf
          refine va_iald (D := D) (pc := 32) hx hb hK hP _ 0 (fl_at 1 0 rfl rfl) rfl hi2 d_Mod_sequences_32 ?_
          refine lv_iload_n (pc := 33) hx hb d_Mod_sequences_33 rfl (lv_at hl 2 rfl) ?_
          refine lv_icmp_ne (tgt := 40) (pc := 34) hx hb d_Mod_sequences_34 (by decide) (fun c3 => ?_) (fun c3 => ?_)
          · replace hf := o_f c3 hf
            exact J40 (x2_L4 + 1) x3_L4 H locs ls hP hD hS (lv_sub hl [1, 2, 0, 3] rfl) hf
          · replace hf := o_t c3 hf
            refine lv_bipush (v := 100) (pc := 37) hx hb d_Mod_sequences_37 (by decide) ?_
            cases hf
            exact ret_i hx hb hr hlocks hK hP hS d_Mod_sequences_39
        · replace hf := o_f c4 hf
          refine lv_goto (tgt := 40) (pc := 21) hx hb d_Mod_sequences_21 (by decide) ?_
          exact J40 x2_L4 x3_L4 H locs ls hP hD hS (lv_sub hl [0, 1, 2, 3] rfl) hf
  exact L4 a0 fu 0 1 H locs ls hP hD hS (lv_sub hl [2, 3, 1, 0] rfl) hf
def Mod_where_L7 (fu : Nat) (sMo : S_Mo) (sMlist : (Nat → Int32)) (sMnext : (Nat → Int32)) (ke_7 : Int32 → Option (Int32)) : Nat → Int32 → Option (Int32)
  | 0, _ => none
  | n + 1, x1_L7 => if x1_L7 ≤ 0 then ke_7 x1_L7 else o_gd (o_in x1_L7 90) (if (sMlist (x1_L7 : Int32).toNatClampNeg) = 16 then ke_7 x1_L7 else Mod_where_L7 fu sMo sMlist sMnext ke_7 n (x1_L7 + (-1)))
def Mod_where_j28 (fu : Nat) (sMo : S_Mo) (sMlist : (Nat → Int32)) (sMnext : (Nat → Int32)) (x1_j28 : Int32) : Option (Int32) := o_gd (o_in x1_j28 90) (some ((sMnext (x1_j28 : Int32).toNatClampNeg) - 1))
def Mod_where (fu : Nat) (sMo : S_Mo) (sMlist : (Nat → Int32)) (sMnext : (Nat → Int32)) : Option (Int32) := Mod_where_L7 fu sMo sMlist sMnext (fun y1 => Mod_where_j28 fu sMo sMlist sMnext y1) fu ((Mo_open sMo) - 1)
abbrev rm_Mod_where : Room := { frames := 0, cells := 0, slots := 0, locals := 0 }
set_option maxHeartbeats 4000000 in
set_option maxRecDepth 100000 in
theorem c_Mod_where (l : Launch) (D : va_G) (K : Nat → ClassId) (fu : Nat) (hMo : Nat → Nat) (sMo : S_Mo) (sMlist : (Nat → Int32)) (sMnext : (Nat → Int32)) (r : Int32) (hf : Mod_where fu sMo sMlist sMnext = some r) : mi l D K y_Mod_where ws_Mod_where rm_Mod_where [.ref (hMo 0)] (fl [wMo K hMo sMo, wRowI K (fun _ => hMo 9) 90 sMlist, wRowI K (fun _ => hMo 10) 90 sMnext]) (fl [wMo K hMo sMo, wRowI K (fun _ => hMo 9) 90 sMlist, wRowI K (fun _ => hMo 10) 90 sMnext]) r := by
  refine mi_of (cc := b_Mod_where) (maxL := 2) (own := "ObsMessagesModel") (by decide) rfl rfl (Nat.le_of_ble_eq_true rfl) ?_
  intro p e s m below meth c A ls hC hP hD hS hl
  obtain ⟨hx, hb, hml, hown, hts, hr, hlocks, hK, hF, hA⟩ := hC
  have hP : va_P D vwCl (fl [wMo K hMo sMo, wRowI K (fun _ => hMo 9) 90 sMlist, wRowI K (fun _ => hMo 10) 90 sMnext]) s.heap := hP
  have hl : lv_has ls 2 [(0, .ref (hMo 0))] := hl
  suffices hW : ∀ (H : Heap) (locs : List Loc), va_P D vwCl (fl [wMo K hMo sMo, wRowI K (fun _ => hMo 9) 90 sMlist, wRowI K (fun _ => hMo 10) 90 sMnext]) H → va_S A s.heap H locs → W p l e rm_Mod_where s m ([.ref (hMo 0)] : List Value).toArray below meth c H locs 0 0 (Qi below ([.ref (hMo 0)] : List Value).toArray s D K A (fl [wMo K hMo sMo, wRowI K (fun _ => hMo 9) 90 sMlist, wRowI K (fun _ => hMo 10) 90 sMnext]) r) (F0 m 0 ls []) from hW s.heap [] hP hS
  clear hP hS
  intro H locs hP hS
  have J28 : ∀ (x1_j28 : Int32) (H : Heap) (locs : List Loc) (ls : Array Slot), va_P D vwCl (fl [wMo K hMo sMo, wRowI K (fun _ => hMo 9) 90 sMlist, wRowI K (fun _ => hMo 10) 90 sMnext]) H → va_D A (fl [wMo K hMo sMo, wRowI K (fun _ => hMo 9) 90 sMlist, wRowI K (fun _ => hMo 10) 90 sMnext]) → va_S A s.heap H locs → lv_has ls 2 [(0, .ref (hMo 0)), (1, .int x1_j28)] → Mod_where_j28 fu sMo sMlist sMnext x1_j28 = some r → W p l e rm_Mod_where s m ([.ref (hMo 0)] : List Value).toArray below meth c H locs 0 0 (Qi below ([.ref (hMo 0)] : List Value).toArray s D K A (fl [wMo K hMo sMo, wRowI K (fun _ => hMo 9) 90 sMlist, wRowI K (fun _ => hMo 10) 90 sMnext]) r) (F0 m 28 ls []) := by
    intro x1_j28 H locs ls hP hD hS hl hf
    refine lv_aload_n (pc := 28) hx hb d_Mod_where_28 rfl (lv_at hl 0 rfl) ?_
    refine va_get (D := D) (ci := 10) (v := .ref (hMo 10)) (C := R_Mod) (T := T_Mod) (N := 61) (pc := 29) hx hb hts (fun w h => List.mem_cons_of_mem _ (in_Mod w h)) hown hK hP _ (fl_at 0 0 rfl rfl) rfl 14 (by decide) (hts _ (List.mem_cons_of_mem _ tw_1107)) (fun _ h9 => h9) rfl d_Mod_where_29 ?_
    refine lv_iload_n (pc := 32) hx hb d_Mod_where_32 rfl (lv_at hl 1 rfl) ?_
    obtain ⟨hi4, hf⟩ := o_gi_e hf
    refine va_iald (D := D) (pc := 33) hx hb hK hP _ 0 (fl_at 2 0 rfl rfl) rfl hi4 d_Mod_where_33 ?_
    refine lv_iconst (v := 1) (pc := 34) hx hb d_Mod_where_34 (by decide) ?_
    refine lv_isub (pc := 35) hx hb d_Mod_where_35 ?_
    cases hf
    exact ret_i hx hb hr hlocks hK hP hS d_Mod_where_36
  refine lv_aload_n (pc := 0) hx hb d_Mod_where_0 rfl (lv_at hl 0 rfl) ?_
  refine va_get (D := D) (ci := 10) (v := .int (Mo_open sMo)) (C := R_Mod) (T := T_Mod) (N := 61) (pc := 1) hx hb hts (fun w h => List.mem_cons_of_mem _ (in_Mod w h)) hown hK hP _ (fl_at 0 0 rfl rfl) rfl 12 (by decide) (hts _ (List.mem_cons_of_mem _ tw_1105)) (fun _ h9 => h9) rfl d_Mod_where_1 ?_
  refine lv_iconst (v := 1) (pc := 4) hx hb d_Mod_where_4 (by decide) ?_
  refine lv_isub (pc := 5) hx hb d_Mod_where_5 ?_
  refine lv_istore_n (lv' := [(1, .int ((Mo_open sMo) - 1)), (0, .ref (hMo 0))]) (pc := 6) hx hb d_Mod_where_6 rfl hl (by decide) rfl (fun ls hl => ?_)
  have L7 : ∀  (n : Nat) (x1_L7 : Int32) (H : Heap) (locs : List Loc) (ls : Array Slot), va_P D vwCl (fl [wMo K hMo sMo, wRowI K (fun _ => hMo 9) 90 sMlist, wRowI K (fun _ => hMo 10) 90 sMnext]) H → va_D A (fl [wMo K hMo sMo, wRowI K (fun _ => hMo 9) 90 sMlist, wRowI K (fun _ => hMo 10) 90 sMnext]) → va_S A s.heap H locs → lv_has ls 2 [(0, .ref (hMo 0)), (1, .int x1_L7)] → Mod_where_L7 fu sMo sMlist sMnext (fun y1 => Mod_where_j28 fu sMo sMlist sMnext y1) n x1_L7 = some r → W p l e rm_Mod_where s m ([.ref (hMo 0)] : List Value).toArray below meth c H locs 0 0 (Qi below ([.ref (hMo 0)] : List Value).toArray s D K A (fl [wMo K hMo sMo, wRowI K (fun _ => hMo 9) 90 sMlist, wRowI K (fun _ => hMo 10) 90 sMnext]) r) (F0 m 7 ls []) := by
    intro n
    induction n with
    | zero =>
      intro x1_L7 H locs ls hP hD hS hl hf
      exact absurd hf (fun h => nomatch h)
    | succ n_7 ih_7 =>
      intro x1_L7 H locs ls hP hD hS hl hf
      refine lv_iload_n (pc := 7) hx hb d_Mod_where_7 rfl (lv_at hl 1 rfl) ?_
      refine lv_if_le (tgt := 28) (pc := 8) hx hb d_Mod_where_8 (by decide) (fun c3 => ?_) (fun c3 => ?_)
      · replace hf := o_t c3 hf
        exact J28 x1_L7 H locs ls hP hD hS (lv_sub hl [0, 1] rfl) hf
      · replace hf := o_f c3 hf
        refine lv_aload_n (pc := 11) hx hb d_Mod_where_11 rfl (lv_at hl 0 rfl) ?_
        refine va_get (D := D) (ci := 10) (v := .ref (hMo 9)) (C := R_Mod) (T := T_Mod) (N := 61) (pc := 12) hx hb hts (fun w h => List.mem_cons_of_mem _ (in_Mod w h)) hown hK hP _ (fl_at 0 0 rfl rfl) rfl 13 (by decide) (hts _ (List.mem_cons_of_mem _ tw_1106)) (fun _ h9 => h9) rfl d_Mod_where_12 ?_
        refine lv_iload_n (pc := 15) hx hb d_Mod_where_15 rfl (lv_at hl 1 rfl) ?_
        obtain ⟨hi1, hf⟩ := o_gi_e hf
        refine va_iald (D := D) (pc := 16) hx hb hK hP _ 0 (fl_at 1 0 rfl rfl) rfl hi1 d_Mod_where_16 ?_
        refine lv_bipush (v := 16) (pc := 17) hx hb d_Mod_where_17 (by decide) ?_
        refine lv_icmp_eq (tgt := 28) (pc := 19) hx hb d_Mod_where_19 (by decide) (fun c2 => ?_) (fun c2 => ?_)
        · replace hf := o_t c2 hf
          exact J28 x1_L7 H locs ls hP hD hS (lv_sub hl [0, 1] rfl) hf
        · replace hf := o_f c2 hf
          refine lv_iinc (v := x1_L7 + (-1)) (lv' := [(1, .int (x1_L7 + (-1))), (0, .ref (hMo 0))]) (pc := 22) hx hb d_Mod_where_22 hl (k := 1) rfl rfl (by decide) rfl (fun ls hl => ?_)
          refine lv_goto (tgt := 7) (pc := 25) hx hb d_Mod_where_25 (by decide) ?_
          exact ih_7 (x1_L7 + (-1)) H locs ls hP hD hS (lv_sub hl [1, 0] rfl) hf
  exact L7 fu ((Mo_open sMo) - 1) H locs ls hP hD hS (lv_sub hl [1, 0] rfl) hf
