def Fld_has (sFld : S_Fld) (a0 : Int32) : Option (Int32) := if a0 < 0 then some 0 else if (Fld_count sFld) ≤ a0 then some 0 else some 1
abbrev rm_Fld_has : Room := { frames := 0, cells := 0, slots := 0, locals := 0 }
set_option maxHeartbeats 4000000 in
set_option maxRecDepth 100000 in
theorem c_Fld_has (l : Launch) (D : va_G) (K : Nat → ClassId) (hFld : Nat → Nat) (sFld : S_Fld) (a0 : Int32) (r : Int32) (hf : Fld_has sFld a0 = some r) : mi l D K y_Fld_has ws_Fld_has rm_Fld_has [.ref (hFld 0), .int a0] (fl [wFld K hFld sFld]) (fl [wFld K hFld sFld]) r := by
  refine mi_of (cc := b_Fld_has) (maxL := 2) (own := "ObsMessages$Fields") (by decide) rfl rfl (Nat.le_of_ble_eq_true rfl) ?_
  intro p e s m below meth c A ls hC hP hD hS hl
  obtain ⟨hx, hb, hml, hown, hts, hr, hlocks, hK, hF, hA⟩ := hC
  have hP : va_P D vwCl (fl [wFld K hFld sFld]) s.heap := hP
  have hl : lv_has ls 2 [(0, .ref (hFld 0)), (1, .int a0)] := hl
  suffices hW : ∀ (H : Heap) (locs : List Loc), va_P D vwCl (fl [wFld K hFld sFld]) H → va_S A s.heap H locs → W p l e rm_Fld_has s m ([.ref (hFld 0), .int a0] : List Value).toArray below meth c H locs 0 0 (Qi below ([.ref (hFld 0), .int a0] : List Value).toArray s D K A (fl [wFld K hFld sFld]) r) (F0 m 0 ls []) from hW s.heap [] hP hS
  clear hP hS
  intro H locs hP hS
  refine lv_iload_n (pc := 0) hx hb d_Fld_has_0 rfl (lv_at hl 1 rfl) ?_
  refine lv_if_lt (tgt := 16) (pc := 1) hx hb d_Fld_has_1 (by decide) (fun c2 => ?_) (fun c2 => ?_)
  · replace hf := o_t c2 hf
    refine lv_iconst (v := 0) (pc := 16) hx hb d_Fld_has_16 (by decide) ?_
    cases hf
    exact ret_z hx hb hr hlocks hK hP hS rfl d_Fld_has_17
  · replace hf := o_f c2 hf
    refine lv_iload_n (pc := 4) hx hb d_Fld_has_4 rfl (lv_at hl 1 rfl) ?_
    refine lv_aload_n (pc := 5) hx hb d_Fld_has_5 rfl (lv_at hl 0 rfl) ?_
    refine va_get (D := D) (ci := 4) (v := .int (Fld_count sFld)) (C := R_Fld) (T := T_Fld) (N := 8) (pc := 6) hx hb hts (fun w h => List.mem_cons_of_mem _ (in_Fld w h)) hown hK hP _ (fl_at 0 0 rfl rfl) rfl 7 (by decide) (hts _ (List.mem_cons_of_mem _ tw_160)) (fun _ h9 => h9) rfl d_Fld_has_6 ?_
    refine lv_icmp_ge (tgt := 16) (pc := 9) hx hb d_Fld_has_9 (by decide) (fun c1 => ?_) (fun c1 => ?_)
    · replace hf := o_t c1 hf
      refine lv_iconst (v := 0) (pc := 16) hx hb d_Fld_has_16 (by decide) ?_
      cases hf
      exact ret_z hx hb hr hlocks hK hP hS rfl d_Fld_has_17
    · replace hf := o_f c1 hf
      refine lv_iconst (v := 1) (pc := 12) hx hb d_Fld_has_12 (by decide) ?_
      refine lv_goto (tgt := 17) (pc := 13) hx hb d_Fld_has_13 (by decide) ?_
      cases hf
      exact ret_z hx hb hr hlocks hK hP hS rfl d_Fld_has_17
def Fld_isElementOf (sFld : S_Fld) (a0 : Int32) (a1 : Int32) (a2 : Int32) : Option (Int32) := o_gd (o_in a0 100) (if (Fld_kinds sFld (a0 : Int32).toNatClampNeg) = 0 then o_gd (o_in a0 100) (if (Fld_codes sFld (a0 : Int32).toNatClampNeg) = a1 then if a2 = ((-1)) then some 1 else o_gd (o_in a0 100) (if (Fld_repetitions sFld (a0 : Int32).toNatClampNeg) = a2 then some 1 else some 0) else some 0) else some 0)
abbrev rm_Fld_isElementOf : Room := { frames := 0, cells := 0, slots := 0, locals := 0 }
set_option maxHeartbeats 4000000 in
set_option maxRecDepth 100000 in
theorem c_Fld_isElementOf (l : Launch) (D : va_G) (K : Nat → ClassId) (hFld : Nat → Nat) (sFld : S_Fld) (a0 : Int32) (a1 : Int32) (a2 : Int32) (r : Int32) (hf : Fld_isElementOf sFld a0 a1 a2 = some r) : mi l D K y_Fld_isElementOf ws_Fld_isElementOf rm_Fld_isElementOf [.ref (hFld 0), .int a0, .int a1, .int a2] (fl [wFld K hFld sFld]) (fl [wFld K hFld sFld]) r := by
  refine mi_of (cc := b_Fld_isElementOf) (maxL := 4) (own := "ObsMessages$Fields") (by decide) rfl rfl (Nat.le_of_ble_eq_true rfl) ?_
  intro p e s m below meth c A ls hC hP hD hS hl
  obtain ⟨hx, hb, hml, hown, hts, hr, hlocks, hK, hF, hA⟩ := hC
  have hP : va_P D vwCl (fl [wFld K hFld sFld]) s.heap := hP
  have hl : lv_has ls 4 [(0, .ref (hFld 0)), (1, .int a0), (2, .int a1), (3, .int a2)] := hl
  suffices hW : ∀ (H : Heap) (locs : List Loc), va_P D vwCl (fl [wFld K hFld sFld]) H → va_S A s.heap H locs → W p l e rm_Fld_isElementOf s m ([.ref (hFld 0), .int a0, .int a1, .int a2] : List Value).toArray below meth c H locs 0 0 (Qi below ([.ref (hFld 0), .int a0, .int a1, .int a2] : List Value).toArray s D K A (fl [wFld K hFld sFld]) r) (F0 m 0 ls []) from hW s.heap [] hP hS
  clear hP hS
  intro H locs hP hS
  refine lv_aload_n (pc := 0) hx hb d_Fld_isElementOf_0 rfl (lv_at hl 0 rfl) ?_
  refine va_get (D := D) (ci := 4) (v := .ref (hFld 1)) (C := R_Fld) (T := T_Fld) (N := 8) (pc := 1) hx hb hts (fun w h => List.mem_cons_of_mem _ (in_Fld w h)) hown hK hP _ (fl_at 0 0 rfl rfl) rfl 0 (by decide) (hts _ (List.mem_cons_of_mem _ tw_135)) (fun _ h9 => h9) rfl d_Fld_isElementOf_1 ?_
  refine lv_iload_n (pc := 4) hx hb d_Fld_isElementOf_4 rfl (lv_at hl 1 rfl) ?_
  obtain ⟨hi1, hf⟩ := o_gi_e hf
  refine va_iald (D := D) (pc := 5) hx hb hK hP _ 0 (fl_at 0 1 rfl rfl) rfl hi1 d_Fld_isElementOf_5 ?_
  refine lv_if_ne (tgt := 38) (pc := 6) hx hb d_Fld_isElementOf_6 (by decide) (fun c7 => ?_) (fun c7 => ?_)
  · replace hf := o_f c7 hf
    refine lv_iconst (v := 0) (pc := 38) hx hb d_Fld_isElementOf_38 (by decide) ?_
    cases hf
    exact ret_z hx hb hr hlocks hK hP hS rfl d_Fld_isElementOf_39
  · replace hf := o_t c7 hf
    refine lv_aload_n (pc := 9) hx hb d_Fld_isElementOf_9 rfl (lv_at hl 0 rfl) ?_
    refine va_get (D := D) (ci := 4) (v := .ref (hFld 2)) (C := R_Fld) (T := T_Fld) (N := 8) (pc := 10) hx hb hts (fun w h => List.mem_cons_of_mem _ (in_Fld w h)) hown hK hP _ (fl_at 0 0 rfl rfl) rfl 1 (by decide) (hts _ (List.mem_cons_of_mem _ tw_139)) (fun _ h9 => h9) rfl d_Fld_isElementOf_10 ?_
    refine lv_iload_n (pc := 13) hx hb d_Fld_isElementOf_13 rfl (lv_at hl 1 rfl) ?_
    obtain ⟨hi2, hf⟩ := o_gi_e hf
    refine va_iald (D := D) (pc := 14) hx hb hK hP _ 0 (fl_at 0 2 rfl rfl) rfl hi2 d_Fld_isElementOf_14 ?_
    refine lv_iload_n (pc := 15) hx hb d_Fld_isElementOf_15 rfl (lv_at hl 2 rfl) ?_
    refine lv_icmp_ne (tgt := 38) (pc := 16) hx hb d_Fld_isElementOf_16 (by decide) (fun c6 => ?_) (fun c6 => ?_)
    · replace hf := o_f c6 hf
      refine lv_iconst (v := 0) (pc := 38) hx hb d_Fld_isElementOf_38 (by decide) ?_
      cases hf
      exact ret_z hx hb hr hlocks hK hP hS rfl d_Fld_isElementOf_39
    · replace hf := o_t c6 hf
      refine lv_iload_n (pc := 19) hx hb d_Fld_isElementOf_19 rfl (lv_at hl 3 rfl) ?_
      refine lv_iconst (v := (-1)) (pc := 20) hx hb d_Fld_isElementOf_20 (by decide) ?_
      refine lv_icmp_eq (tgt := 34) (pc := 21) hx hb d_Fld_isElementOf_21 (by decide) (fun c5 => ?_) (fun c5 => ?_)
      · replace hf := o_t c5 hf
        refine lv_iconst (v := 1) (pc := 34) hx hb d_Fld_isElementOf_34 (by decide) ?_
        refine lv_goto (tgt := 39) (pc := 35) hx hb d_Fld_isElementOf_35 (by decide) ?_
        cases hf
        exact ret_z hx hb hr hlocks hK hP hS rfl d_Fld_isElementOf_39
      · replace hf := o_f c5 hf
        refine lv_aload_n (pc := 24) hx hb d_Fld_isElementOf_24 rfl (lv_at hl 0 rfl) ?_
        refine va_get (D := D) (ci := 4) (v := .ref (hFld 7)) (C := R_Fld) (T := T_Fld) (N := 8) (pc := 25) hx hb hts (fun w h => List.mem_cons_of_mem _ (in_Fld w h)) hown hK hP _ (fl_at 0 0 rfl rfl) rfl 6 (by decide) (hts _ (List.mem_cons_of_mem _ tw_157)) (fun _ h9 => h9) rfl d_Fld_isElementOf_25 ?_
        refine lv_iload_n (pc := 28) hx hb d_Fld_isElementOf_28 rfl (lv_at hl 1 rfl) ?_
        obtain ⟨hi3, hf⟩ := o_gi_e hf
        refine va_iald (D := D) (pc := 29) hx hb hK hP _ 0 (fl_at 0 7 rfl rfl) rfl hi3 d_Fld_isElementOf_29 ?_
        refine lv_iload_n (pc := 30) hx hb d_Fld_isElementOf_30 rfl (lv_at hl 3 rfl) ?_
        refine lv_icmp_ne (tgt := 38) (pc := 31) hx hb d_Fld_isElementOf_31 (by decide) (fun c4 => ?_) (fun c4 => ?_)
        · replace hf := o_f c4 hf
          refine lv_iconst (v := 0) (pc := 38) hx hb d_Fld_isElementOf_38 (by decide) ?_
          cases hf
          exact ret_z hx hb hr hlocks hK hP hS rfl d_Fld_isElementOf_39
        · replace hf := o_t c4 hf
          refine lv_iconst (v := 1) (pc := 34) hx hb d_Fld_isElementOf_34 (by decide) ?_
          refine lv_goto (tgt := 39) (pc := 35) hx hb d_Fld_isElementOf_35 (by decide) ?_
          cases hf
          exact ret_z hx hb hr hlocks hK hP hS rfl d_Fld_isElementOf_39
def Fld_isCountOrBit (sFld : S_Fld) (a0 : Int32) : Option (Int32) := o_gd (o_in a0 100) (if (Fld_kinds sFld (a0 : Int32).toNatClampNeg) = 2 then some 1 else o_gd (o_in a0 100) (if (Fld_kinds sFld (a0 : Int32).toNatClampNeg) = 3 then some 1 else some 0))
abbrev rm_Fld_isCountOrBit : Room := { frames := 0, cells := 0, slots := 0, locals := 0 }
set_option maxHeartbeats 4000000 in
set_option maxRecDepth 100000 in
theorem c_Fld_isCountOrBit (l : Launch) (D : va_G) (K : Nat → ClassId) (hFld : Nat → Nat) (sFld : S_Fld) (a0 : Int32) (r : Int32) (hf : Fld_isCountOrBit sFld a0 = some r) : mi l D K y_Fld_isCountOrBit ws_Fld_isCountOrBit rm_Fld_isCountOrBit [.ref (hFld 0), .int a0] (fl [wFld K hFld sFld]) (fl [wFld K hFld sFld]) r := by
  refine mi_of (cc := b_Fld_isCountOrBit) (maxL := 2) (own := "ObsMessages$Fields") (by decide) rfl rfl (Nat.le_of_ble_eq_true rfl) ?_
  intro p e s m below meth c A ls hC hP hD hS hl
  obtain ⟨hx, hb, hml, hown, hts, hr, hlocks, hK, hF, hA⟩ := hC
  have hP : va_P D vwCl (fl [wFld K hFld sFld]) s.heap := hP
  have hl : lv_has ls 2 [(0, .ref (hFld 0)), (1, .int a0)] := hl
  suffices hW : ∀ (H : Heap) (locs : List Loc), va_P D vwCl (fl [wFld K hFld sFld]) H → va_S A s.heap H locs → W p l e rm_Fld_isCountOrBit s m ([.ref (hFld 0), .int a0] : List Value).toArray below meth c H locs 0 0 (Qi below ([.ref (hFld 0), .int a0] : List Value).toArray s D K A (fl [wFld K hFld sFld]) r) (F0 m 0 ls []) from hW s.heap [] hP hS
  clear hP hS
  intro H locs hP hS
  refine lv_aload_n (pc := 0) hx hb d_Fld_isCountOrBit_0 rfl (lv_at hl 0 rfl) ?_
  refine va_get (D := D) (ci := 4) (v := .ref (hFld 1)) (C := R_Fld) (T := T_Fld) (N := 8) (pc := 1) hx hb hts (fun w h => List.mem_cons_of_mem _ (in_Fld w h)) hown hK hP _ (fl_at 0 0 rfl rfl) rfl 0 (by decide) (hts _ (List.mem_cons_of_mem _ tw_135)) (fun _ h9 => h9) rfl d_Fld_isCountOrBit_1 ?_
  refine lv_iload_n (pc := 4) hx hb d_Fld_isCountOrBit_4 rfl (lv_at hl 1 rfl) ?_
  obtain ⟨hi1, hf⟩ := o_gi_e hf
  refine va_iald (D := D) (pc := 5) hx hb hK hP _ 0 (fl_at 0 1 rfl rfl) rfl hi1 d_Fld_isCountOrBit_5 ?_
  refine lv_iconst (v := 2) (pc := 6) hx hb d_Fld_isCountOrBit_6 (by decide) ?_
  refine lv_icmp_eq (tgt := 20) (pc := 7) hx hb d_Fld_isCountOrBit_7 (by decide) (fun c4 => ?_) (fun c4 => ?_)
  · replace hf := o_t c4 hf
    refine lv_iconst (v := 1) (pc := 20) hx hb d_Fld_isCountOrBit_20 (by decide) ?_
    refine lv_goto (tgt := 25) (pc := 21) hx hb d_Fld_isCountOrBit_21 (by decide) ?_
    cases hf
    exact ret_z hx hb hr hlocks hK hP hS rfl d_Fld_isCountOrBit_25
  · replace hf := o_f c4 hf
    refine lv_aload_n (pc := 10) hx hb d_Fld_isCountOrBit_10 rfl (lv_at hl 0 rfl) ?_
    refine va_get (D := D) (ci := 4) (v := .ref (hFld 1)) (C := R_Fld) (T := T_Fld) (N := 8) (pc := 11) hx hb hts (fun w h => List.mem_cons_of_mem _ (in_Fld w h)) hown hK hP _ (fl_at 0 0 rfl rfl) rfl 0 (by decide) (hts _ (List.mem_cons_of_mem _ tw_135)) (fun _ h9 => h9) rfl d_Fld_isCountOrBit_11 ?_
    refine lv_iload_n (pc := 14) hx hb d_Fld_isCountOrBit_14 rfl (lv_at hl 1 rfl) ?_
    obtain ⟨hi2, hf⟩ := o_gi_e hf
    refine va_iald (D := D) (pc := 15) hx hb hK hP _ 0 (fl_at 0 1 rfl rfl) rfl hi2 d_Fld_isCountOrBit_15 ?_
    refine lv_iconst (v := 3) (pc := 16) hx hb d_Fld_isCountOrBit_16 (by decide) ?_
    refine lv_icmp_ne (tgt := 24) (pc := 17) hx hb d_Fld_isCountOrBit_17 (by decide) (fun c3 => ?_) (fun c3 => ?_)
    · replace hf := o_f c3 hf
      refine lv_iconst (v := 0) (pc := 24) hx hb d_Fld_isCountOrBit_24 (by decide) ?_
      cases hf
      exact ret_z hx hb hr hlocks hK hP hS rfl d_Fld_isCountOrBit_25
    · replace hf := o_t c3 hf
      refine lv_iconst (v := 1) (pc := 20) hx hb d_Fld_isCountOrBit_20 (by decide) ?_
      refine lv_goto (tgt := 25) (pc := 21) hx hb d_Fld_isCountOrBit_21 (by decide) ?_
      cases hf
      exact ret_z hx hb hr hlocks hK hP hS rfl d_Fld_isCountOrBit_25
def Fld_firstOther_j30 (fu : Nat) (nRW : Nat) (nRW2 : Nat) (sFld : S_Fld) (sRW : (Nat → Int64)) (sRW2 : (Nat → Int64)) (kc_2 : Int32 → Option (Int32)) (x3_j30 : Int32) : Option (Int32) := kc_2 (x3_j30 + 1)
def Fld_firstOther_L2 (fu : Nat) (nRW : Nat) (nRW2 : Nat) (sFld : S_Fld) (sRW : (Nat → Int64)) (sRW2 : (Nat → Int64)) : Nat → Int32 → Option (Int32)
  | 0, _ => none
  | n + 1, x3_L2 => if (Fld_count sFld) ≤ x3_L2 then some ((-1)) else o_bd (Fld_isCountOrBit sFld x3_L2) fun q1 => (if q1 = 0 then Fld_firstOther_j30 fu nRW nRW2 sFld sRW sRW2 (fun v0 => Fld_firstOther_L2 fu nRW nRW2 sFld sRW sRW2 n v0) x3_L2 else o_gd (o_in x3_L2 nRW) (o_gd (o_in x3_L2 nRW2) (if (sRW (x3_L2 : Int32).toNatClampNeg) = (sRW2 (x3_L2 : Int32).toNatClampNeg) then Fld_firstOther_j30 fu nRW nRW2 sFld sRW sRW2 (fun v0 => Fld_firstOther_L2 fu nRW nRW2 sFld sRW sRW2 n v0) x3_L2 else some x3_L2)))
def Fld_firstOther (fu : Nat) (nRW : Nat) (nRW2 : Nat) (sFld : S_Fld) (sRW : (Nat → Int64)) (sRW2 : (Nat → Int64)) : Option (Int32) := Fld_firstOther_L2 fu nRW nRW2 sFld sRW sRW2 fu 0
abbrev rm_Fld_firstOther : Room := { frames := 1, cells := 0, slots := 0, locals := 21 }
set_option maxHeartbeats 4000000 in
set_option maxRecDepth 100000 in
theorem c_Fld_firstOther (l : Launch) (D : va_G) (K : Nat → ClassId) (fu : Nat) (hFld : Nat → Nat) (hRW : Nat → Nat) (hRW2 : Nat → Nat) (nRW : Nat) (nRW2 : Nat) (sFld : S_Fld) (sRW : (Nat → Int64)) (sRW2 : (Nat → Int64)) (r : Int32) (hf : Fld_firstOther fu nRW nRW2 sFld sRW sRW2 = some r) : mi l D K y_Fld_firstOther ws_Fld_firstOther rm_Fld_firstOther [.ref (hFld 0), .ref (hRW 0), .ref (hRW2 0)] (fl [wFld K hFld sFld, wRow K hRW nRW sRW, wRow K hRW2 nRW2 sRW2]) (fl [wFld K hFld sFld, wRow K hRW nRW sRW, wRow K hRW2 nRW2 sRW2]) r := by
  refine mi_of (cc := b_Fld_firstOther) (maxL := 4) (own := "ObsMessages$Fields") (by decide) rfl rfl (Nat.le_of_ble_eq_true rfl) ?_
  intro p e s m below meth c A ls hC hP hD hS hl
  obtain ⟨hx, hb, hml, hown, hts, hr, hlocks, hK, hF, hA⟩ := hC
  have hP : va_P D vwCl (fl [wFld K hFld sFld, wRow K hRW nRW sRW, wRow K hRW2 nRW2 sRW2]) s.heap := hP
  have hl : lv_has ls 4 [(0, .ref (hFld 0)), (1, .ref (hRW 0)), (2, .ref (hRW2 0))] := hl
  suffices hW : ∀ (H : Heap) (locs : List Loc), va_P D vwCl (fl [wFld K hFld sFld, wRow K hRW nRW sRW, wRow K hRW2 nRW2 sRW2]) H → va_S A s.heap H locs → W p l e rm_Fld_firstOther s m ([.ref (hFld 0), .ref (hRW 0), .ref (hRW2 0)] : List Value).toArray below meth c H locs 0 0 (Qi below ([.ref (hFld 0), .ref (hRW 0), .ref (hRW2 0)] : List Value).toArray s D K A (fl [wFld K hFld sFld, wRow K hRW nRW sRW, wRow K hRW2 nRW2 sRW2]) r) (F0 m 0 ls []) from hW s.heap [] hP hS
  clear hP hS
  intro H locs hP hS
  refine lv_iconst (v := 0) (pc := 0) hx hb d_Fld_firstOther_0 (by decide) ?_
  refine lv_istore_n (lv' := [(3, .int 0), (0, .ref (hFld 0)), (1, .ref (hRW 0)), (2, .ref (hRW2 0))]) (pc := 1) hx hb d_Fld_firstOther_1 rfl hl (by decide) rfl (fun ls hl => ?_)
  have L2 : ∀  (n : Nat) (x3_L2 : Int32) (H : Heap) (locs : List Loc) (ls : Array Slot), va_P D vwCl (fl [wFld K hFld sFld, wRow K hRW nRW sRW, wRow K hRW2 nRW2 sRW2]) H → va_D A (fl [wFld K hFld sFld, wRow K hRW nRW sRW, wRow K hRW2 nRW2 sRW2]) → va_S A s.heap H locs → lv_has ls 4 [(0, .ref (hFld 0)), (1, .ref (hRW 0)), (2, .ref (hRW2 0)), (3, .int x3_L2)] → Fld_firstOther_L2 fu nRW nRW2 sFld sRW sRW2 n x3_L2 = some r → W p l e rm_Fld_firstOther s m ([.ref (hFld 0), .ref (hRW 0), .ref (hRW2 0)] : List Value).toArray below meth c H locs 0 0 (Qi below ([.ref (hFld 0), .ref (hRW 0), .ref (hRW2 0)] : List Value).toArray s D K A (fl [wFld K hFld sFld, wRow K hRW nRW sRW, wRow K hRW2 nRW2 sRW2]) r) (F0 m 2 ls []) := by
    intro n
    induction n with
    | zero =>
      intro x3_L2 H locs ls hP hD hS hl hf
      exact absurd hf (fun h => nomatch h)
    | succ n_2 ih_2 =>
      intro x3_L2 H locs ls hP hD hS hl hf
      have J30 : ∀ (x3_j30 : Int32) (H : Heap) (locs : List Loc) (ls : Array Slot), va_P D vwCl (fl [wFld K hFld sFld, wRow K hRW nRW sRW, wRow K hRW2 nRW2 sRW2]) H → va_D A (fl [wFld K hFld sFld, wRow K hRW nRW sRW, wRow K hRW2 nRW2 sRW2]) → va_S A s.heap H locs → lv_has ls 4 [(0, .ref (hFld 0)), (1, .ref (hRW 0)), (2, .ref (hRW2 0)), (3, .int x3_j30)] → Fld_firstOther_j30 fu nRW nRW2 sFld sRW sRW2 (fun v0 => Fld_firstOther_L2 fu nRW nRW2 sFld sRW sRW2 n_2 v0) x3_j30 = some r → W p l e rm_Fld_firstOther s m ([.ref (hFld 0), .ref (hRW 0), .ref (hRW2 0)] : List Value).toArray below meth c H locs 0 0 (Qi below ([.ref (hFld 0), .ref (hRW 0), .ref (hRW2 0)] : List Value).toArray s D K A (fl [wFld K hFld sFld, wRow K hRW nRW sRW, wRow K hRW2 nRW2 sRW2]) r) (F0 m 30 ls []) := by
        intro x3_j30 H locs ls hP hD hS hl hf
        refine lv_iinc (v := x3_j30 + 1) (lv' := [(3, .int (x3_j30 + 1)), (0, .ref (hFld 0)), (1, .ref (hRW 0)), (2, .ref (hRW2 0))]) (pc := 30) hx hb d_Fld_firstOther_30 hl (k := 3) rfl rfl (by decide) rfl (fun ls hl => ?_)
        refine lv_goto (tgt := 2) (pc := 33) hx hb d_Fld_firstOther_33 (by decide) ?_
        exact ih_2 (x3_j30 + 1) H locs ls hP hD hS (lv_sub hl [1, 2, 3, 0] rfl) hf
      refine lv_iload_n (pc := 2) hx hb d_Fld_firstOther_2 rfl (lv_at hl 3 rfl) ?_
      refine lv_aload_n (pc := 3) hx hb d_Fld_firstOther_3 rfl (lv_at hl 0 rfl) ?_
      refine va_get (D := D) (ci := 4) (v := .int (Fld_count sFld)) (C := R_Fld) (T := T_Fld) (N := 8) (pc := 4) hx hb hts (fun w h => List.mem_cons_of_mem _ (in_Fld w h)) hown hK hP _ (fl_at 0 0 rfl rfl) rfl 7 (by decide) (hts _ (List.mem_cons_of_mem _ tw_160)) (fun _ h9 => h9) rfl d_Fld_firstOther_4 ?_
      refine lv_icmp_ge (tgt := 36) (pc := 7) hx hb d_Fld_firstOther_7 (by decide) (fun c6 => ?_) (fun c6 => ?_)
      · replace hf := o_t c6 hf
        refine lv_iconst (v := (-1)) (pc := 36) hx hb d_Fld_firstOther_36 (by decide) ?_
        cases hf
        exact ret_i hx hb hr hlocks hK hP hS d_Fld_firstOther_37
      · replace hf := o_f c6 hf
        refine lv_aload_n (pc := 10) hx hb d_Fld_firstOther_10 rfl (lv_at hl 0 rfl) ?_
        refine lv_iload_n (pc := 11) hx hb d_Fld_firstOther_11 rfl (lv_at hl 3 rfl) ?_
        obtain ⟨q1, hq1, hf⟩ := o_bd_e hf
        refine fi_i (pc := 12) (va_runV (As := [.int x3_L2]) (rest := []) ⟨hx, hb, hml, hown, hts⟩ ((c_Fld_isCountOrBit l D K hFld sFld x3_L2 q1 hq1) _) (cwV 1 hts (gV tw_910 tw_627 tw_628 tw_5 tw_629) rfl rfl rfl (by decide +kernel) ⟨by decide, by decide⟩) ⟨mPre_blind, va_recv hK hP (ci := 4) rfl (fl_at 0 0 rfl rfl), (mPre_fl hK hF hA hP hD hS [0] rfl rfl)⟩ rfl rfl hl.1 rfl (lv_room (Nat.le_of_ble_eq_true rfl)) d_Fld_firstOther_12 ⟨Nat.zero_le _, Nat.zero_le _⟩) hA hP hD hS [0] rfl rfl (fun H locs hP hD hS => ?_)
        have hP : va_P D vwCl (fl [wFld K hFld sFld, wRow K hRW nRW sRW, wRow K hRW2 nRW2 sRW2]) H := hP
        have hD : va_D A (fl [wFld K hFld sFld, wRow K hRW nRW sRW, wRow K hRW2 nRW2 sRW2]) := hD
        refine lv_if_eq (tgt := 30) (pc := 15) hx hb d_Fld_firstOther_15 (by decide) (fun c5 => ?_) (fun c5 => ?_)
        · replace hf := o_t c5 hf
          exact J30 x3_L2 H locs ls hP hD hS (lv_sub hl [0, 1, 2, 3] rfl) hf
        · replace hf := o_f c5 hf
          refine lv_aload_n (pc := 18) hx hb d_Fld_firstOther_18 rfl (lv_at hl 1 rfl) ?_
          refine lv_iload_n (pc := 19) hx hb d_Fld_firstOther_19 rfl (lv_at hl 3 rfl) ?_
          obtain ⟨hi2, hf⟩ := o_gi_e hf
          refine va_lald (D := D) (pc := 20) hx hb hK hP _ 1 (fl_at 1 0 rfl rfl) rfl hi2 d_Fld_firstOther_20 ?_
          refine lv_aload_n (pc := 21) hx hb d_Fld_firstOther_21 rfl (lv_at hl 2 rfl) ?_
          refine lv_iload_n (pc := 22) hx hb d_Fld_firstOther_22 rfl (lv_at hl 3 rfl) ?_
          obtain ⟨hi3, hf⟩ := o_gi_e hf
          refine va_lald (D := D) (pc := 23) hx hb hK hP _ 1 (fl_at 2 0 rfl rfl) rfl hi3 d_Fld_firstOther_23 ?_
          refine lc_eq (tgt := 30) (pc := 24) hx hb d_Fld_firstOther_24 d_Fld_firstOther_25 (by decide) (fun c4 => ?_) (fun c4 => ?_)
          · replace hf := o_t c4 hf
            exact J30 x3_L2 H locs ls hP hD hS (lv_sub hl [0, 1, 2, 3] rfl) hf
          · replace hf := o_f c4 hf
            refine lv_iload_n (pc := 28) hx hb d_Fld_firstOther_28 rfl (lv_at hl 3 rfl) ?_
            cases hf
            exact ret_i hx hb hr hlocks hK hP hS d_Fld_firstOther_29
  exact L2 fu 0 H locs ls hP hD hS (lv_sub hl [1, 2, 3, 0] rfl) hf
def Fld_hasRaw (sFld : S_Fld) (a0 : Int32) (a1 : Int64) : Option (Int32) := o_gd (o_in a0 100) (if (Fld_kinds sFld (a0 : Int32).toNatClampNeg) = 3 then some 1 else if a1 = ((-9000000000000000000)) then some 1 else o_gd (o_in a0 100) (if a1 < (Fld_references sFld (a0 : Int32).toNatClampNeg) then some 0 else o_gd (o_in a0 100) (o_gd (o_in a0 100) (o_bd (X_allOnes (Fld_widths sFld (a0 : Int32).toNatClampNeg)) fun q5 => (if ((Fld_references sFld (a0 : Int32).toNatClampNeg) + q5) ≤ a1 then some 0 else some 1)))))
abbrev rm_Fld_hasRaw : Room := { frames := 1, cells := 0, slots := 0, locals := 20 }
set_option maxHeartbeats 4000000 in
set_option maxRecDepth 100000 in
theorem c_Fld_hasRaw (l : Launch) (D : va_G) (K : Nat → ClassId) (hFld : Nat → Nat) (sFld : S_Fld) (a0 : Int32) (a1 : Int64) (r : Int32) (hf : Fld_hasRaw sFld a0 a1 = some r) : mi l D K y_Fld_hasRaw ws_Fld_hasRaw rm_Fld_hasRaw [.ref (hFld 0), .int a0, .long a1] (fl [wFld K hFld sFld]) (fl [wFld K hFld sFld]) r := by
  refine mi_of (cc := b_Fld_hasRaw) (maxL := 4) (own := "ObsMessages$Fields") (by decide) rfl rfl (Nat.le_of_ble_eq_true rfl) ?_
  intro p e s m below meth c A ls hC hP hD hS hl
  obtain ⟨hx, hb, hml, hown, hts, hr, hlocks, hK, hF, hA⟩ := hC
  have hP : va_P D vwCl (fl [wFld K hFld sFld]) s.heap := hP
  have hl : lv_has ls 4 [(0, .ref (hFld 0)), (1, .int a0), (2, .long a1)] := hl
  suffices hW : ∀ (H : Heap) (locs : List Loc), va_P D vwCl (fl [wFld K hFld sFld]) H → va_S A s.heap H locs → W p l e rm_Fld_hasRaw s m ([.ref (hFld 0), .int a0, .long a1] : List Value).toArray below meth c H locs 0 0 (Qi below ([.ref (hFld 0), .int a0, .long a1] : List Value).toArray s D K A (fl [wFld K hFld sFld]) r) (F0 m 0 ls []) from hW s.heap [] hP hS
  clear hP hS
  intro H locs hP hS
  refine lv_aload_n (pc := 0) hx hb d_Fld_hasRaw_0 rfl (lv_at hl 0 rfl) ?_
  refine va_get (D := D) (ci := 4) (v := .ref (hFld 1)) (C := R_Fld) (T := T_Fld) (N := 8) (pc := 1) hx hb hts (fun w h => List.mem_cons_of_mem _ (in_Fld w h)) hown hK hP _ (fl_at 0 0 rfl rfl) rfl 0 (by decide) (hts _ (List.mem_cons_of_mem _ tw_135)) (fun _ h9 => h9) rfl d_Fld_hasRaw_1 ?_
  refine lv_iload_n (pc := 4) hx hb d_Fld_hasRaw_4 rfl (lv_at hl 1 rfl) ?_
  obtain ⟨hi1, hf⟩ := o_gi_e hf
  refine va_iald (D := D) (pc := 5) hx hb hK hP _ 0 (fl_at 0 1 rfl rfl) rfl hi1 d_Fld_hasRaw_5 ?_
  refine lv_iconst (v := 3) (pc := 6) hx hb d_Fld_hasRaw_6 (by decide) ?_
  refine lv_icmp_eq (tgt := 18) (pc := 7) hx hb d_Fld_hasRaw_7 (by decide) (fun c9 => ?_) (fun c9 => ?_)
  · replace hf := o_t c9 hf
    refine lv_iconst (v := 1) (pc := 18) hx hb d_Fld_hasRaw_18 (by decide) ?_
    cases hf
    exact ret_z hx hb hr hlocks hK hP hS rfl d_Fld_hasRaw_19
  · replace hf := o_f c9 hf
    refine lv_lload_n (pc := 10) hx hb d_Fld_hasRaw_10 rfl (lv_at hl 2 rfl) ?_
    refine lv_ldc2 (pc := 11) hx hb hown (hts _ (List.mem_cons_of_mem _ tw_898)) d_Fld_hasRaw_11 ?_
    refine lc_ne (tgt := 20) (pc := 14) hx hb d_Fld_hasRaw_14 d_Fld_hasRaw_15 (by decide) (fun c8 => ?_) (fun c8 => ?_)
    · replace hf := o_f c8 hf
      refine lv_lload_n (pc := 20) hx hb d_Fld_hasRaw_20 rfl (lv_at hl 2 rfl) ?_
      refine lv_aload_n (pc := 21) hx hb d_Fld_hasRaw_21 rfl (lv_at hl 0 rfl) ?_
      refine va_get (D := D) (ci := 4) (v := .ref (hFld 5)) (C := R_Fld) (T := T_Fld) (N := 8) (pc := 22) hx hb hts (fun w h => List.mem_cons_of_mem _ (in_Fld w h)) hown hK hP _ (fl_at 0 0 rfl rfl) rfl 4 (by decide) (hts _ (List.mem_cons_of_mem _ tw_150)) (fun _ h9 => h9) rfl d_Fld_hasRaw_22 ?_
      refine lv_iload_n (pc := 25) hx hb d_Fld_hasRaw_25 rfl (lv_at hl 1 rfl) ?_
      obtain ⟨hi2, hf⟩ := o_gi_e hf
      refine va_lald (D := D) (pc := 26) hx hb hK hP _ 1 (fl_at 0 5 rfl rfl) rfl hi2 d_Fld_hasRaw_26 ?_
      refine lc_lt (tgt := 56) (pc := 27) hx hb d_Fld_hasRaw_27 d_Fld_hasRaw_28 (by decide) (fun c7 => ?_) (fun c7 => ?_)
      · replace hf := o_t c7 hf
        refine lv_iconst (v := 0) (pc := 56) hx hb d_Fld_hasRaw_56 (by decide) ?_
        cases hf
        exact ret_z hx hb hr hlocks hK hP hS rfl d_Fld_hasRaw_57
      · replace hf := o_f c7 hf
        refine lv_lload_n (pc := 31) hx hb d_Fld_hasRaw_31 rfl (lv_at hl 2 rfl) ?_
        refine lv_aload_n (pc := 32) hx hb d_Fld_hasRaw_32 rfl (lv_at hl 0 rfl) ?_
        refine va_get (D := D) (ci := 4) (v := .ref (hFld 5)) (C := R_Fld) (T := T_Fld) (N := 8) (pc := 33) hx hb hts (fun w h => List.mem_cons_of_mem _ (in_Fld w h)) hown hK hP _ (fl_at 0 0 rfl rfl) rfl 4 (by decide) (hts _ (List.mem_cons_of_mem _ tw_150)) (fun _ h9 => h9) rfl d_Fld_hasRaw_33 ?_
        refine lv_iload_n (pc := 36) hx hb d_Fld_hasRaw_36 rfl (lv_at hl 1 rfl) ?_
        obtain ⟨hi3, hf⟩ := o_gi_e hf
        refine va_lald (D := D) (pc := 37) hx hb hK hP _ 1 (fl_at 0 5 rfl rfl) rfl hi3 d_Fld_hasRaw_37 ?_
        refine lv_aload_n (pc := 38) hx hb d_Fld_hasRaw_38 rfl (lv_at hl 0 rfl) ?_
        refine va_get (D := D) (ci := 4) (v := .ref (hFld 3)) (C := R_Fld) (T := T_Fld) (N := 8) (pc := 39) hx hb hts (fun w h => List.mem_cons_of_mem _ (in_Fld w h)) hown hK hP _ (fl_at 0 0 rfl rfl) rfl 2 (by decide) (hts _ (List.mem_cons_of_mem _ tw_142)) (fun _ h9 => h9) rfl d_Fld_hasRaw_39 ?_
        refine lv_iload_n (pc := 42) hx hb d_Fld_hasRaw_42 rfl (lv_at hl 1 rfl) ?_
        obtain ⟨hi4, hf⟩ := o_gi_e hf
        refine va_iald (D := D) (pc := 43) hx hb hK hP _ 0 (fl_at 0 3 rfl rfl) rfl hi4 d_Fld_hasRaw_43 ?_
        obtain ⟨q5, hq5, hf⟩ := o_bd_e hf
        refine fi_l (pc := 44) (va_runSN (As := [.int (Fld_widths sFld (a0 : Int32).toNatClampNeg)]) (rest := [.long (Fld_references sFld (a0 : Int32).toNatClampNeg), .long a1]) ⟨hx, hb, hml, hown, hts⟩ ((c_X_allOnes l D K (Fld_widths sFld (a0 : Int32).toNatClampNeg) q5 hq5) _) (⟨va_cnB 1 hts (tb_in tw_901) rfl rfl rfl (hF.1 _ nw_4) (hts _ (List.mem_cons_of_mem _ tw_1)) (by decide +kernel) ⟨by decide, by decide⟩, (hts _ (List.mem_cons_of_mem _ tw_900)), trivial⟩) ⟨mPre_blind, (mPre_fl hK hF hA hP hD hS [] rfl rfl)⟩ rfl rfl hl.1 rfl (lv_room (Nat.le_of_ble_eq_true rfl)) d_Fld_hasRaw_44 ⟨Nat.zero_le _, Nat.zero_le _⟩) hA hP hD hS [] rfl rfl (fun H locs hP hD hS => ?_)
        have hP : va_P D vwCl (fl [wFld K hFld sFld]) H := hP
        have hD : va_D A (fl [wFld K hFld sFld]) := hD
        refine lv_ladd (pc := 47) hx hb d_Fld_hasRaw_47 ?_
        refine lc_ge (tgt := 56) (pc := 48) hx hb d_Fld_hasRaw_48 d_Fld_hasRaw_49 (by decide) (fun c6 => ?_) (fun c6 => ?_)
        · replace hf := o_t c6 hf
          refine lv_iconst (v := 0) (pc := 56) hx hb d_Fld_hasRaw_56 (by decide) ?_
          cases hf
          exact ret_z hx hb hr hlocks hK hP hS rfl d_Fld_hasRaw_57
        · replace hf := o_f c6 hf
          refine lv_iconst (v := 1) (pc := 52) hx hb d_Fld_hasRaw_52 (by decide) ?_
          refine lv_goto (tgt := 57) (pc := 53) hx hb d_Fld_hasRaw_53 (by decide) ?_
          cases hf
          exact ret_z hx hb hr hlocks hK hP hS rfl d_Fld_hasRaw_57
    · replace hf := o_t c8 hf
      refine lv_iconst (v := 1) (pc := 18) hx hb d_Fld_hasRaw_18 (by decide) ?_
      cases hf
      exact ret_z hx hb hr hlocks hK hP hS rfl d_Fld_hasRaw_19
def Fld_rawOf (sFld : S_Fld) (a0 : Int32) (a1 : Int64) : Option (Int64) := if a1 = ((-9000000000000000000)) then o_gd (o_in a0 100) (o_bd (X_allOnes (Fld_widths sFld (a0 : Int32).toNatClampNeg)) fun q3 => (some q3)) else o_gd (o_in a0 100) (some (a1 - (Fld_references sFld (a0 : Int32).toNatClampNeg)))
abbrev rm_Fld_rawOf : Room := { frames := 1, cells := 0, slots := 0, locals := 20 }
set_option maxHeartbeats 4000000 in
set_option maxRecDepth 100000 in
theorem c_Fld_rawOf (l : Launch) (D : va_G) (K : Nat → ClassId) (hFld : Nat → Nat) (sFld : S_Fld) (a0 : Int32) (a1 : Int64) (r : Int64) (hf : Fld_rawOf sFld a0 a1 = some r) : ml l D K y_Fld_rawOf ws_Fld_rawOf rm_Fld_rawOf [.ref (hFld 0), .int a0, .long a1] (fl [wFld K hFld sFld]) (fl [wFld K hFld sFld]) r := by
  refine ml_of (cc := b_Fld_rawOf) (maxL := 4) (own := "ObsMessages$Fields") (by decide) rfl rfl (Nat.le_of_ble_eq_true rfl) ?_
  intro p e s m below meth c A ls hC hP hD hS hl
  obtain ⟨hx, hb, hml, hown, hts, hr, hlocks, hK, hF, hA⟩ := hC
  have hP : va_P D vwCl (fl [wFld K hFld sFld]) s.heap := hP
  have hl : lv_has ls 4 [(0, .ref (hFld 0)), (1, .int a0), (2, .long a1)] := hl
  suffices hW : ∀ (H : Heap) (locs : List Loc), va_P D vwCl (fl [wFld K hFld sFld]) H → va_S A s.heap H locs → W p l e rm_Fld_rawOf s m ([.ref (hFld 0), .int a0, .long a1] : List Value).toArray below meth c H locs 0 0 (Ql below ([.ref (hFld 0), .int a0, .long a1] : List Value).toArray s D K A (fl [wFld K hFld sFld]) r) (F0 m 0 ls []) from hW s.heap [] hP hS
  clear hP hS
  intro H locs hP hS
  refine lv_lload_n (pc := 0) hx hb d_Fld_rawOf_0 rfl (lv_at hl 2 rfl) ?_
  refine lv_ldc2 (pc := 1) hx hb hown (hts _ (List.mem_cons_of_mem _ tw_898)) d_Fld_rawOf_1 ?_
  refine lc_ne (tgt := 18) (pc := 4) hx hb d_Fld_rawOf_4 d_Fld_rawOf_5 (by decide) (fun c4 => ?_) (fun c4 => ?_)
  · replace hf := o_f c4 hf
    refine lv_lload_n (pc := 18) hx hb d_Fld_rawOf_18 rfl (lv_at hl 2 rfl) ?_
    refine lv_aload_n (pc := 19) hx hb d_Fld_rawOf_19 rfl (lv_at hl 0 rfl) ?_
    refine va_get (D := D) (ci := 4) (v := .ref (hFld 5)) (C := R_Fld) (T := T_Fld) (N := 8) (pc := 20) hx hb hts (fun w h => List.mem_cons_of_mem _ (in_Fld w h)) hown hK hP _ (fl_at 0 0 rfl rfl) rfl 4 (by decide) (hts _ (List.mem_cons_of_mem _ tw_150)) (fun _ h9 => h9) rfl d_Fld_rawOf_20 ?_
    refine lv_iload_n (pc := 23) hx hb d_Fld_rawOf_23 rfl (lv_at hl 1 rfl) ?_
    obtain ⟨hi1, hf⟩ := o_gi_e hf
    refine va_lald (D := D) (pc := 24) hx hb hK hP _ 1 (fl_at 0 5 rfl rfl) rfl hi1 d_Fld_rawOf_24 ?_
    refine lv_lsub (pc := 25) hx hb d_Fld_rawOf_25 ?_
    cases hf
    exact ret_l hx hb hr hlocks hK hP hS d_Fld_rawOf_26
  · replace hf := o_t c4 hf
    refine lv_aload_n (pc := 8) hx hb d_Fld_rawOf_8 rfl (lv_at hl 0 rfl) ?_
    refine va_get (D := D) (ci := 4) (v := .ref (hFld 3)) (C := R_Fld) (T := T_Fld) (N := 8) (pc := 9) hx hb hts (fun w h => List.mem_cons_of_mem _ (in_Fld w h)) hown hK hP _ (fl_at 0 0 rfl rfl) rfl 2 (by decide) (hts _ (List.mem_cons_of_mem _ tw_142)) (fun _ h9 => h9) rfl d_Fld_rawOf_9 ?_
    refine lv_iload_n (pc := 12) hx hb d_Fld_rawOf_12 rfl (lv_at hl 1 rfl) ?_
    obtain ⟨hi2, hf⟩ := o_gi_e hf
    refine va_iald (D := D) (pc := 13) hx hb hK hP _ 0 (fl_at 0 3 rfl rfl) rfl hi2 d_Fld_rawOf_13 ?_
    obtain ⟨q3, hq3, hf⟩ := o_bd_e hf
    refine fi_l (pc := 14) (va_runSN (As := [.int (Fld_widths sFld (a0 : Int32).toNatClampNeg)]) (rest := []) ⟨hx, hb, hml, hown, hts⟩ ((c_X_allOnes l D K (Fld_widths sFld (a0 : Int32).toNatClampNeg) q3 hq3) _) (⟨va_cnB 1 hts (tb_in tw_901) rfl rfl rfl (hF.1 _ nw_4) (hts _ (List.mem_cons_of_mem _ tw_1)) (by decide +kernel) ⟨by decide, by decide⟩, (hts _ (List.mem_cons_of_mem _ tw_900)), trivial⟩) ⟨mPre_blind, (mPre_fl hK hF hA hP hD hS [] rfl rfl)⟩ rfl rfl hl.1 rfl (lv_room (Nat.le_of_ble_eq_true rfl)) d_Fld_rawOf_14 ⟨Nat.zero_le _, Nat.zero_le _⟩) hA hP hD hS [] rfl rfl (fun H locs hP hD hS => ?_)
    have hP : va_P D vwCl (fl [wFld K hFld sFld]) H := hP
    have hD : va_D A (fl [wFld K hFld sFld]) := hD
    cases hf
    exact ret_l hx hb hr hlocks hK hP hS d_Fld_rawOf_17
def Fld_isMissing (sFld : S_Fld) (a0 : Int32) (a1 : Int64) : Option (Int32) := o_gd (o_in a0 100) (if (Fld_kinds sFld (a0 : Int32).toNatClampNeg) = 3 then some 0 else o_gd (o_in a0 100) (o_bd (X_allOnes (Fld_widths sFld (a0 : Int32).toNatClampNeg)) fun q3 => (if a1 = q3 then some 1 else some 0)))
abbrev rm_Fld_isMissing : Room := { frames := 1, cells := 0, slots := 0, locals := 20 }
set_option maxHeartbeats 4000000 in
set_option maxRecDepth 100000 in
theorem c_Fld_isMissing (l : Launch) (D : va_G) (K : Nat → ClassId) (hFld : Nat → Nat) (sFld : S_Fld) (a0 : Int32) (a1 : Int64) (r : Int32) (hf : Fld_isMissing sFld a0 a1 = some r) : mi l D K y_Fld_isMissing ws_Fld_isMissing rm_Fld_isMissing [.ref (hFld 0), .int a0, .long a1] (fl [wFld K hFld sFld]) (fl [wFld K hFld sFld]) r := by
  refine mi_of (cc := b_Fld_isMissing) (maxL := 4) (own := "ObsMessages$Fields") (by decide) rfl rfl (Nat.le_of_ble_eq_true rfl) ?_
  intro p e s m below meth c A ls hC hP hD hS hl
  obtain ⟨hx, hb, hml, hown, hts, hr, hlocks, hK, hF, hA⟩ := hC
  have hP : va_P D vwCl (fl [wFld K hFld sFld]) s.heap := hP
  have hl : lv_has ls 4 [(0, .ref (hFld 0)), (1, .int a0), (2, .long a1)] := hl
  suffices hW : ∀ (H : Heap) (locs : List Loc), va_P D vwCl (fl [wFld K hFld sFld]) H → va_S A s.heap H locs → W p l e rm_Fld_isMissing s m ([.ref (hFld 0), .int a0, .long a1] : List Value).toArray below meth c H locs 0 0 (Qi below ([.ref (hFld 0), .int a0, .long a1] : List Value).toArray s D K A (fl [wFld K hFld sFld]) r) (F0 m 0 ls []) from hW s.heap [] hP hS
  clear hP hS
  intro H locs hP hS
  refine lv_aload_n (pc := 0) hx hb d_Fld_isMissing_0 rfl (lv_at hl 0 rfl) ?_
  refine va_get (D := D) (ci := 4) (v := .ref (hFld 1)) (C := R_Fld) (T := T_Fld) (N := 8) (pc := 1) hx hb hts (fun w h => List.mem_cons_of_mem _ (in_Fld w h)) hown hK hP _ (fl_at 0 0 rfl rfl) rfl 0 (by decide) (hts _ (List.mem_cons_of_mem _ tw_135)) (fun _ h9 => h9) rfl d_Fld_isMissing_1 ?_
  refine lv_iload_n (pc := 4) hx hb d_Fld_isMissing_4 rfl (lv_at hl 1 rfl) ?_
  obtain ⟨hi1, hf⟩ := o_gi_e hf
  refine va_iald (D := D) (pc := 5) hx hb hK hP _ 0 (fl_at 0 1 rfl rfl) rfl hi1 d_Fld_isMissing_5 ?_
  refine lv_iconst (v := 3) (pc := 6) hx hb d_Fld_isMissing_6 (by decide) ?_
  refine lv_icmp_eq (tgt := 28) (pc := 7) hx hb d_Fld_isMissing_7 (by decide) (fun c5 => ?_) (fun c5 => ?_)
  · replace hf := o_t c5 hf
    refine lv_iconst (v := 0) (pc := 28) hx hb d_Fld_isMissing_28 (by decide) ?_
    cases hf
    exact ret_z hx hb hr hlocks hK hP hS rfl d_Fld_isMissing_29
  · replace hf := o_f c5 hf
    refine lv_lload_n (pc := 10) hx hb d_Fld_isMissing_10 rfl (lv_at hl 2 rfl) ?_
    refine lv_aload_n (pc := 11) hx hb d_Fld_isMissing_11 rfl (lv_at hl 0 rfl) ?_
    refine va_get (D := D) (ci := 4) (v := .ref (hFld 3)) (C := R_Fld) (T := T_Fld) (N := 8) (pc := 12) hx hb hts (fun w h => List.mem_cons_of_mem _ (in_Fld w h)) hown hK hP _ (fl_at 0 0 rfl rfl) rfl 2 (by decide) (hts _ (List.mem_cons_of_mem _ tw_142)) (fun _ h9 => h9) rfl d_Fld_isMissing_12 ?_
    refine lv_iload_n (pc := 15) hx hb d_Fld_isMissing_15 rfl (lv_at hl 1 rfl) ?_
    obtain ⟨hi2, hf⟩ := o_gi_e hf
    refine va_iald (D := D) (pc := 16) hx hb hK hP _ 0 (fl_at 0 3 rfl rfl) rfl hi2 d_Fld_isMissing_16 ?_
    obtain ⟨q3, hq3, hf⟩ := o_bd_e hf
    refine fi_l (pc := 17) (va_runSN (As := [.int (Fld_widths sFld (a0 : Int32).toNatClampNeg)]) (rest := [.long a1]) ⟨hx, hb, hml, hown, hts⟩ ((c_X_allOnes l D K (Fld_widths sFld (a0 : Int32).toNatClampNeg) q3 hq3) _) (⟨va_cnB 1 hts (tb_in tw_901) rfl rfl rfl (hF.1 _ nw_4) (hts _ (List.mem_cons_of_mem _ tw_1)) (by decide +kernel) ⟨by decide, by decide⟩, (hts _ (List.mem_cons_of_mem _ tw_900)), trivial⟩) ⟨mPre_blind, (mPre_fl hK hF hA hP hD hS [] rfl rfl)⟩ rfl rfl hl.1 rfl (lv_room (Nat.le_of_ble_eq_true rfl)) d_Fld_isMissing_17 ⟨Nat.zero_le _, Nat.zero_le _⟩) hA hP hD hS [] rfl rfl (fun H locs hP hD hS => ?_)
    have hP : va_P D vwCl (fl [wFld K hFld sFld]) H := hP
    have hD : va_D A (fl [wFld K hFld sFld]) := hD
    refine lc_ne (tgt := 28) (pc := 20) hx hb d_Fld_isMissing_20 d_Fld_isMissing_21 (by decide) (fun c4 => ?_) (fun c4 => ?_)
    · replace hf := o_f c4 hf
      refine lv_iconst (v := 0) (pc := 28) hx hb d_Fld_isMissing_28 (by decide) ?_
      cases hf
      exact ret_z hx hb hr hlocks hK hP hS rfl d_Fld_isMissing_29
    · replace hf := o_t c4 hf
      refine lv_iconst (v := 1) (pc := 24) hx hb d_Fld_isMissing_24 (by decide) ?_
      refine lv_goto (tgt := 29) (pc := 25) hx hb d_Fld_isMissing_25 (by decide) ?_
      cases hf
      exact ret_z hx hb hr hlocks hK hP hS rfl d_Fld_isMissing_29
def Fld_valueOf (sFld : S_Fld) (a0 : Int32) (a1 : Int64) : Option (Int64) := o_bd (Fld_isMissing sFld a0 a1) fun q1 => (if q1 = 0 then o_gd (o_in a0 100) (some ((Fld_references sFld (a0 : Int32).toNatClampNeg) + a1)) else some ((-9000000000000000000)))
abbrev rm_Fld_valueOf : Room := { frames := 2, cells := 0, slots := 0, locals := 43 }
set_option maxHeartbeats 4000000 in
set_option maxRecDepth 100000 in
theorem c_Fld_valueOf (l : Launch) (D : va_G) (K : Nat → ClassId) (hFld : Nat → Nat) (sFld : S_Fld) (a0 : Int32) (a1 : Int64) (r : Int64) (hf : Fld_valueOf sFld a0 a1 = some r) : ml l D K y_Fld_valueOf ws_Fld_valueOf rm_Fld_valueOf [.ref (hFld 0), .int a0, .long a1] (fl [wFld K hFld sFld]) (fl [wFld K hFld sFld]) r := by
  refine ml_of (cc := b_Fld_valueOf) (maxL := 4) (own := "ObsMessages$Fields") (by decide) rfl rfl (Nat.le_of_ble_eq_true rfl) ?_
  intro p e s m below meth c A ls hC hP hD hS hl
  obtain ⟨hx, hb, hml, hown, hts, hr, hlocks, hK, hF, hA⟩ := hC
  have hP : va_P D vwCl (fl [wFld K hFld sFld]) s.heap := hP
  have hl : lv_has ls 4 [(0, .ref (hFld 0)), (1, .int a0), (2, .long a1)] := hl
  suffices hW : ∀ (H : Heap) (locs : List Loc), va_P D vwCl (fl [wFld K hFld sFld]) H → va_S A s.heap H locs → W p l e rm_Fld_valueOf s m ([.ref (hFld 0), .int a0, .long a1] : List Value).toArray below meth c H locs 0 0 (Ql below ([.ref (hFld 0), .int a0, .long a1] : List Value).toArray s D K A (fl [wFld K hFld sFld]) r) (F0 m 0 ls []) from hW s.heap [] hP hS
  clear hP hS
  intro H locs hP hS
  refine lv_aload_n (pc := 0) hx hb d_Fld_valueOf_0 rfl (lv_at hl 0 rfl) ?_
  refine lv_iload_n (pc := 1) hx hb d_Fld_valueOf_1 rfl (lv_at hl 1 rfl) ?_
  refine lv_lload_n (pc := 2) hx hb d_Fld_valueOf_2 rfl (lv_at hl 2 rfl) ?_
  obtain ⟨q1, hq1, hf⟩ := o_bd_e hf
  refine fi_i (pc := 3) (va_runV (As := [.int a0, .long a1]) (rest := []) ⟨hx, hb, hml, hown, hts⟩ ((c_Fld_isMissing l D K hFld sFld a0 a1 q1 hq1) _) (cwV 2 hts (gV tw_1008 tw_937 tw_938 tw_5 tw_939) rfl rfl rfl (by decide +kernel) ⟨by decide, by decide⟩) ⟨mPre_blind, va_recv hK hP (ci := 4) rfl (fl_at 0 0 rfl rfl), (mPre_fl hK hF hA hP hD hS [0] rfl rfl)⟩ rfl rfl hl.1 rfl (lv_room (Nat.le_of_ble_eq_true rfl)) d_Fld_valueOf_3 ⟨Nat.zero_le _, Nat.zero_le _⟩) hA hP hD hS [0] rfl rfl (fun H locs hP hD hS => ?_)
  have hP : va_P D vwCl (fl [wFld K hFld sFld]) H := hP
  have hD : va_D A (fl [wFld K hFld sFld]) := hD
  refine lv_if_eq (tgt := 15) (pc := 6) hx hb d_Fld_valueOf_6 (by decide) (fun c3 => ?_) (fun c3 => ?_)
  · replace hf := o_t c3 hf
    refine lv_aload_n (pc := 15) hx hb d_Fld_valueOf_15 rfl (lv_at hl 0 rfl) ?_
    refine va_get (D := D) (ci := 4) (v := .ref (hFld 5)) (C := R_Fld) (T := T_Fld) (N := 8) (pc := 16) hx hb hts (fun w h => List.mem_cons_of_mem _ (in_Fld w h)) hown hK hP _ (fl_at 0 0 rfl rfl) rfl 4 (by decide) (hts _ (List.mem_cons_of_mem _ tw_150)) (fun _ h9 => h9) rfl d_Fld_valueOf_16 ?_
    refine lv_iload_n (pc := 19) hx hb d_Fld_valueOf_19 rfl (lv_at hl 1 rfl) ?_
    obtain ⟨hi2, hf⟩ := o_gi_e hf
    refine va_lald (D := D) (pc := 20) hx hb hK hP _ 1 (fl_at 0 5 rfl rfl) rfl hi2 d_Fld_valueOf_20 ?_
    refine lv_lload_n (pc := 21) hx hb d_Fld_valueOf_21 rfl (lv_at hl 2 rfl) ?_
    refine lv_ladd (pc := 22) hx hb d_Fld_valueOf_22 ?_
    cases hf
    exact ret_l hx hb hr hlocks hK hP hS d_Fld_valueOf_23
  · replace hf := o_f c3 hf
    refine lv_ldc2 (pc := 9) hx hb hown (hts _ (List.mem_cons_of_mem _ tw_898)) d_Fld_valueOf_9 ?_
    refine lv_goto (tgt := 23) (pc := 12) hx hb d_Fld_valueOf_12 (by decide) ?_
    cases hf
    exact ret_l hx hb hr hlocks hK hP hS d_Fld_valueOf_23
