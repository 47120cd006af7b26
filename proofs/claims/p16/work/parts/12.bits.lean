def Bits_byteCount (nBt : Nat) (sBt : S_Bits) : Option (Int32) := some (((Bits_length sBt) + 7) / 8)
abbrev rm_Bits_byteCount : Room := { frames := 0, cells := 0, slots := 0, locals := 0 }
set_option maxHeartbeats 4000000 in
set_option maxRecDepth 100000 in
theorem c_Bits_byteCount (l : Launch) (D : va_G) (K : Nat → ClassId) (hBt : Nat → Nat) (nBt : Nat) (sBt : S_Bits) (r : Int32) (hf : Bits_byteCount nBt sBt = some r) : mi l D K y_Bits_byteCount ws_Bits_byteCount rm_Bits_byteCount [.ref (hBt 0)] (fl [wBits K hBt nBt sBt]) (fl [wBits K hBt nBt sBt]) r := by
  refine mi_of (cc := b_Bits_byteCount) (maxL := 1) (own := "ObsMessages$Bits") (by decide) rfl rfl (Nat.le_of_ble_eq_true rfl) ?_
  intro p e s m below meth c A ls hC hP hD hS hl
  obtain ⟨hx, hb, hml, hown, hts, hr, hlocks, hK, hF, hA⟩ := hC
  have hP : va_P D vwCl (fl [wBits K hBt nBt sBt]) s.heap := hP
  have hl : lv_has ls 1 [(0, .ref (hBt 0))] := hl
  suffices hW : ∀ (H : Heap) (locs : List Loc), va_P D vwCl (fl [wBits K hBt nBt sBt]) H → va_S A s.heap H locs → W p l e rm_Bits_byteCount s m ([.ref (hBt 0)] : List Value).toArray below meth c H locs 0 0 (Qi below ([.ref (hBt 0)] : List Value).toArray s D K A (fl [wBits K hBt nBt sBt]) r) (F0 m 0 ls []) from hW s.heap [] hP hS
  clear hP hS
  intro H locs hP hS
  refine lv_aload_n (pc := 0) hx hb d_Bits_byteCount_0 rfl (lv_at hl 0 rfl) ?_
  refine va_get (D := D) (ci := 7) (v := .int (Bits_length sBt)) (C := R_Bits) (T := T_Bits) (N := 2) (pc := 1) hx hb hts (fun w h => List.mem_cons_of_mem _ (in_Bits w h)) hown hK hP _ (fl_at 0 0 rfl rfl) rfl 1 (by decide) (hts _ (List.mem_cons_of_mem _ tw_283)) (fun _ h9 => h9) rfl d_Bits_byteCount_1 ?_
  refine lv_bipush (v := 7) (pc := 4) hx hb d_Bits_byteCount_4 (by decide) ?_
  refine lv_iadd (pc := 6) hx hb d_Bits_byteCount_6 ?_
  refine lv_bipush (v := 8) (pc := 7) hx hb d_Bits_byteCount_7 (by decide) ?_
  refine lv_idiv (pc := 9) hx hb d_Bits_byteCount_9 (by decide) ?_
  cases hf
  exact ret_i hx hb hr hlocks hK hP hS d_Bits_byteCount_10
def Bits_bitAt (nBt : Nat) (sBt : S_Bits) (a0 : Int32) : Option (Int32) := if a0 < 0 then some 0 else if (Bits_length sBt) ≤ a0 then some 0 else o_gd (o_in (a0 / 8) nBt) (some (((Bits_bytes sBt (a0 / 8 : Int32).toNatClampNeg) >>> ((7 - (a0 - a0 / 8 * 8)) &&& 31)) &&& 1))
abbrev rm_Bits_bitAt : Room := { frames := 0, cells := 0, slots := 0, locals := 0 }
set_option maxHeartbeats 4000000 in
set_option maxRecDepth 100000 in
theorem c_Bits_bitAt (l : Launch) (D : va_G) (K : Nat → ClassId) (hBt : Nat → Nat) (nBt : Nat) (sBt : S_Bits) (a0 : Int32) (r : Int32) (hf : Bits_bitAt nBt sBt a0 = some r) : mi l D K y_Bits_bitAt ws_Bits_bitAt rm_Bits_bitAt [.ref (hBt 0), .int a0] (fl [wBits K hBt nBt sBt]) (fl [wBits K hBt nBt sBt]) r := by
  refine mi_of (cc := b_Bits_bitAt) (maxL := 2) (own := "ObsMessages$Bits") (by decide) rfl rfl (Nat.le_of_ble_eq_true rfl) ?_
  intro p e s m below meth c A ls hC hP hD hS hl
  obtain ⟨hx, hb, hml, hown, hts, hr, hlocks, hK, hF, hA⟩ := hC
  have hP : va_P D vwCl (fl [wBits K hBt nBt sBt]) s.heap := hP
  have hl : lv_has ls 2 [(0, .ref (hBt 0)), (1, .int a0)] := hl
  suffices hW : ∀ (H : Heap) (locs : List Loc), va_P D vwCl (fl [wBits K hBt nBt sBt]) H → va_S A s.heap H locs → W p l e rm_Bits_bitAt s m ([.ref (hBt 0), .int a0] : List Value).toArray below meth c H locs 0 0 (Qi below ([.ref (hBt 0), .int a0] : List Value).toArray s D K A (fl [wBits K hBt nBt sBt]) r) (F0 m 0 ls []) from hW s.heap [] hP hS
  clear hP hS
  intro H locs hP hS
  refine lv_iload_n (pc := 0) hx hb d_Bits_bitAt_0 rfl (lv_at hl 1 rfl) ?_
  refine lv_if_lt (tgt := 34) (pc := 1) hx hb d_Bits_bitAt_1 (by decide) (fun c3 => ?_) (fun c3 => ?_)
  · replace hf := o_t c3 hf
    refine lv_iconst (v := 0) (pc := 34) hx hb d_Bits_bitAt_34 (by decide) ?_
    cases hf
    exact ret_i hx hb hr hlocks hK hP hS d_Bits_bitAt_35
  · replace hf := o_f c3 hf
    refine lv_iload_n (pc := 4) hx hb d_Bits_bitAt_4 rfl (lv_at hl 1 rfl) ?_
    refine lv_aload_n (pc := 5) hx hb d_Bits_bitAt_5 rfl (lv_at hl 0 rfl) ?_
    refine va_get (D := D) (ci := 7) (v := .int (Bits_length sBt)) (C := R_Bits) (T := T_Bits) (N := 2) (pc := 6) hx hb hts (fun w h => List.mem_cons_of_mem _ (in_Bits w h)) hown hK hP _ (fl_at 0 0 rfl rfl) rfl 1 (by decide) (hts _ (List.mem_cons_of_mem _ tw_283)) (fun _ h9 => h9) rfl d_Bits_bitAt_6 ?_
    refine lv_icmp_ge (tgt := 34) (pc := 9) hx hb d_Bits_bitAt_9 (by decide) (fun c2 => ?_) (fun c2 => ?_)
    · replace hf := o_t c2 hf
      refine lv_iconst (v := 0) (pc := 34) hx hb d_Bits_bitAt_34 (by decide) ?_
      cases hf
      exact ret_i hx hb hr hlocks hK hP hS d_Bits_bitAt_35
    · replace hf := o_f c2 hf
      refine lv_aload_n (pc := 12) hx hb d_Bits_bitAt_12 rfl (lv_at hl 0 rfl) ?_
      refine va_get (D := D) (ci := 7) (v := .ref (hBt 1)) (C := R_Bits) (T := T_Bits) (N := 2) (pc := 13) hx hb hts (fun w h => List.mem_cons_of_mem _ (in_Bits w h)) hown hK hP _ (fl_at 0 0 rfl rfl) rfl 0 (by decide) (hts _ (List.mem_cons_of_mem _ tw_279)) (fun _ h9 => h9) rfl d_Bits_bitAt_13 ?_
      refine lv_iload_n (pc := 16) hx hb d_Bits_bitAt_16 rfl (lv_at hl 1 rfl) ?_
      refine lv_bipush (v := 8) (pc := 17) hx hb d_Bits_bitAt_17 (by decide) ?_
      refine lv_idiv (pc := 19) hx hb d_Bits_bitAt_19 (by decide) ?_
      obtain ⟨hi1, hf⟩ := o_gi_e hf
      refine va_iald (D := D) (pc := 20) hx hb hK hP _ 0 (fl_at 0 1 rfl rfl) rfl hi1 d_Bits_bitAt_20 ?_
      refine lv_bipush (v := 7) (pc := 21) hx hb d_Bits_bitAt_21 (by decide) ?_
      refine lv_iload_n (pc := 23) hx hb d_Bits_bitAt_23 rfl (lv_at hl 1 rfl) ?_
      refine lv_bipush (v := 8) (pc := 24) hx hb d_Bits_bitAt_24 (by decide) ?_
      refine lv_irem (pc := 26) hx hb d_Bits_bitAt_26 (by decide) ?_
      refine lv_isub (pc := 27) hx hb d_Bits_bitAt_27 ?_
      refine lv_ishr (pc := 28) hx hb d_Bits_bitAt_28 ?_
      refine lv_iconst (v := 1) (pc := 29) hx hb d_Bits_bitAt_29 (by decide) ?_
      refine lv_iand (pc := 30) hx hb d_Bits_bitAt_30 ?_
      refine lv_goto (tgt := 35) (pc := 31) hx hb d_Bits_bitAt_31 (by decide) ?_
      cases hf
      exact ret_i hx hb hr hlocks hK hP hS d_Bits_bitAt_35
def Bits_numberAt_L5 (fu : Nat) (nBt : Nat) (sBt : S_Bits) (x1_L5 : Int32) (x2_L5 : Int32) : Nat → Int64 → Int32 → Option (Int64)
  | 0, _, _ => none
  | n + 1, x3_L5, x5_L5 => if (x1_L5 + x2_L5) ≤ x5_L5 then some x3_L5 else o_bd (Bits_bitAt nBt sBt x5_L5) fun q1 => (o_lt ((x3_L5 <<< ((1 : Int32).toInt64 &&& 63)) ||| ((q1 : Int32).toInt64)) fun u2 => (Bits_numberAt_L5 fu nBt sBt x1_L5 x2_L5 n u2 (x5_L5 + 1)))
def Bits_numberAt (fu : Nat) (nBt : Nat) (sBt : S_Bits) (a0 : Int32) (a1 : Int32) : Option (Int64) := Bits_numberAt_L5 fu nBt sBt a0 a1 fu 0 a0
abbrev rm_Bits_numberAt : Room := { frames := 1, cells := 0, slots := 0, locals := 21 }
set_option maxHeartbeats 4000000 in
set_option maxRecDepth 100000 in
theorem c_Bits_numberAt (l : Launch) (D : va_G) (K : Nat → ClassId) (fu : Nat) (hBt : Nat → Nat) (nBt : Nat) (sBt : S_Bits) (a0 : Int32) (a1 : Int32) (r : Int64) (hf : Bits_numberAt fu nBt sBt a0 a1 = some r) : ml l D K y_Bits_numberAt ws_Bits_numberAt rm_Bits_numberAt [.ref (hBt 0), .int a0, .int a1] (fl [wBits K hBt nBt sBt]) (fl [wBits K hBt nBt sBt]) r := by
  refine ml_of (cc := b_Bits_numberAt) (maxL := 6) (own := "ObsMessages$Bits") (by decide) rfl rfl (Nat.le_of_ble_eq_true rfl) ?_
  intro p e s m below meth c A ls hC hP hD hS hl
  obtain ⟨hx, hb, hml, hown, hts, hr, hlocks, hK, hF, hA⟩ := hC
  have hP : va_P D vwCl (fl [wBits K hBt nBt sBt]) s.heap := hP
  have hl : lv_has ls 6 [(0, .ref (hBt 0)), (1, .int a0), (2, .int a1)] := hl
  suffices hW : ∀ (H : Heap) (locs : List Loc), va_P D vwCl (fl [wBits K hBt nBt sBt]) H → va_S A s.heap H locs → W p l e rm_Bits_numberAt s m ([.ref (hBt 0), .int a0, .int a1] : List Value).toArray below meth c H locs 0 0 (Ql below ([.ref (hBt 0), .int a0, .int a1] : List Value).toArray s D K A (fl [wBits K hBt nBt sBt]) r) (F0 m 0 ls []) from hW s.heap [] hP hS
  clear hP hS
  intro H locs hP hS
  refine lv_lconst (v := 0) (pc := 0) hx hb d_Bits_numberAt_0 (by decide) ?_
  refine lv_lstore_n (lv' := [(3, .long 0), (0, .ref (hBt 0)), (1, .int a0), (2, .int a1)]) (pc := 1) hx hb d_Bits_numberAt_1 rfl hl (by decide) rfl (fun ls hl => ?_)
  refine lv_iload_n (pc := 2) hx hb d_Bits_numberAt_2 rfl (lv_at hl 2 rfl) ?_
  refine lv_istore (lv' := [(5, .int a0), (3, .long 0), (0, .ref (hBt 0)), (1, .int a0), (2, .int a1)]) (pc := 3) hx hb d_Bits_numberAt_3 hl (by decide) rfl (fun ls hl => ?_)
  have L5 : ∀ (x1_L5 : Int32) (x2_L5 : Int32) (n : Nat) (x3_L5 : Int64) (x5_L5 : Int32) (H : Heap) (locs : List Loc) (ls : Array Slot), va_P D vwCl (fl [wBits K hBt nBt sBt]) H → va_D A (fl [wBits K hBt nBt sBt]) → va_S A s.heap H locs → lv_has ls 6 [(0, .ref (hBt 0)), (1, .int x1_L5), (2, .int x2_L5), (3, .long x3_L5), (5, .int x5_L5)] → Bits_numberAt_L5 fu nBt sBt x1_L5 x2_L5 n x3_L5 x5_L5 = some r → W p l e rm_Bits_numberAt s m ([.ref (hBt 0), .int a0, .int a1] : List Value).toArray below meth c H locs 0 0 (Ql below ([.ref (hBt 0), .int a0, .int a1] : List Value).toArray s D K A (fl [wBits K hBt nBt sBt]) r) (F0 m 5 ls []) := by
    intro x1_L5 x2_L5 n
    induction n with
    | zero =>
      intro x3_L5 x5_L5 H locs ls hP hD hS hl hf
      exact absurd hf (fun h => nomatch h)
    | succ n_5 ih_5 =>
      intro x3_L5 x5_L5 H locs ls hP hD hS hl hf
      refine lv_iload (pc := 5) hx hb d_Bits_numberAt_5 (lv_at hl 4 rfl) ?_
      refine lv_iload_n (pc := 7) hx hb d_Bits_numberAt_7 rfl (lv_at hl 1 rfl) ?_
      refine lv_iload_n (pc := 8) hx hb d_Bits_numberAt_8 rfl (lv_at hl 2 rfl) ?_
      refine lv_iadd (pc := 9) hx hb d_Bits_numberAt_9 ?_
      refine lv_icmp_ge (tgt := 31) (pc := 10) hx hb d_Bits_numberAt_10 (by decide) (fun c3 => ?_) (fun c3 => ?_)
      · replace hf := o_t c3 hf
        refine lv_lload_n (pc := 31) hx hb d_Bits_numberAt_31 rfl (lv_at hl 3 rfl) ?_
        cases hf
        exact ret_l hx hb hr hlocks hK hP hS d_Bits_numberAt_32
      · replace hf := o_f c3 hf
        refine lv_lload_n (pc := 13) hx hb d_Bits_numberAt_13 rfl (lv_at hl 3 rfl) ?_
        refine lv_iconst (v := 1) (pc := 14) hx hb d_Bits_numberAt_14 (by decide) ?_
        refine lv_lshl (pc := 15) hx hb d_Bits_numberAt_15 rfl ?_
        refine lv_aload_n (pc := 16) hx hb d_Bits_numberAt_16 rfl (lv_at hl 0 rfl) ?_
        refine lv_iload (pc := 17) hx hb d_Bits_numberAt_17 (lv_at hl 4 rfl) ?_
        obtain ⟨q1, hq1, hf⟩ := o_bd_e hf
        refine fi_i (pc := 19) (va_runV (As := [.int x5_L5]) (rest := [.long (x3_L5 <<< ((1 : Int32).toInt64 &&& 63))]) ⟨hx, hb, hml, hown, hts⟩ ((c_Bits_bitAt l D K hBt nBt sBt x5_L5 q1 hq1) _) (cwV 1 hts (gV tw_982 tw_984 tp_29 tw_8 tw_985) rfl rfl rfl (by decide +kernel) ⟨by decide, by decide⟩) ⟨mPre_blind, va_recv hK hP (ci := 7) rfl (fl_at 0 0 rfl rfl), (mPre_fl hK hF hA hP hD hS [0] rfl rfl)⟩ rfl rfl hl.1 rfl (lv_room (Nat.le_of_ble_eq_true rfl)) d_Bits_numberAt_19 ⟨Nat.zero_le _, Nat.zero_le _⟩) hA hP hD hS [0] rfl rfl (fun H locs hP hD hS => ?_)
        have hP : va_P D vwCl (fl [wBits K hBt nBt sBt]) H := hP
        have hD : va_D A (fl [wBits K hBt nBt sBt]) := hD
        refine lv_i2l (pc := 22) hx hb d_Bits_numberAt_22 rfl ?_
        refine lv_lor (pc := 23) hx hb d_Bits_numberAt_23 ?_
        refine lv_topl (fun u2 eu2 => ?_)
        replace hf := o_lt_a eu2 hf
        refine lv_lstore_n (lv' := [(3, .long u2), (0, .ref (hBt 0)), (1, .int x1_L5), (2, .int x2_L5), (5, .int x5_L5)]) (pc := 24) hx hb d_Bits_numberAt_24 rfl hl (by decide) rfl (fun ls hl => ?_)
        refine lv_iinc (v := x5_L5 + 1) (lv' := [(5, .int (x5_L5 + 1)), (3, .long u2), (0, .ref (hBt 0)), (1, .int x1_L5), (2, .int x2_L5)]) (pc := 25) hx hb d_Bits_numberAt_25 hl (k := 4) rfl rfl (by decide) rfl (fun ls hl => ?_)
        refine lv_goto (tgt := 5) (pc := 28) hx hb d_Bits_numberAt_28 (by decide) ?_
        exact ih_5 u2 (x5_L5 + 1) H locs ls hP hD hS (lv_sub hl [2, 3, 4, 1, 0] rfl) hf
  exact L5 a0 a1 fu 0 a0 H locs ls hP hD hS (lv_sub hl [2, 3, 4, 1, 0] rfl) hf
def Bits_add_j62 (fu : Nat) (nBt : Nat) (kc_5 : Int32 → S_Bits → Option (S_Bits)) (x1_L5 : Int64) (x4_j62 : Int32) (sBt_j62 : S_Bits) : Option (S_Bits) := o_lt (Bits_set_length sBt_j62 ((Bits_length sBt_j62) + 1)) fun sBt_7 => (kc_5 (x4_j62 + (-1)) sBt_7)
def Bits_add_L5 (fu : Nat) (nBt : Nat) (x1_L5 : Int64) : Nat → Int32 → S_Bits → Option (S_Bits)
  | 0, _, _ => none
  | n + 1, x4_L5, sBt_L5 => if x4_L5 < 0 then some sBt_L5 else if (Int32.ofNat nBt) ≤ ((Bits_length sBt_L5) / 8) then some sBt_L5 else if ((x1_L5 >>> ((x4_L5 : Int32).toInt64 &&& 63)) &&& 1) = 0 then Bits_add_j62 fu nBt (fun v0 v1 => Bits_add_L5 fu nBt x1_L5 n v0 v1) x1_L5 x4_L5 sBt_L5 else o_gd (o_in ((Bits_length sBt_L5) / 8) nBt) (o_gd (o_in ((Bits_length sBt_L5) / 8) nBt) (o_lt (Bits_put_bytes sBt_L5 ((Bits_length sBt_L5) / 8 : Int32).toNatClampNeg ((Bits_bytes sBt_L5 ((Bits_length sBt_L5) / 8 : Int32).toNatClampNeg) ||| (128 >>> (((Bits_length sBt_L5) - (Bits_length sBt_L5) / 8 * 8) &&& 31)))) fun sBt_3 => (Bits_add_j62 fu nBt (fun v0 v1 => Bits_add_L5 fu nBt x1_L5 n v0 v1) x1_L5 x4_L5 sBt_3)))
def Bits_add (fu : Nat) (nBt : Nat) (a0 : Int64) (a1 : Int32) (sBt : S_Bits) : Option (S_Bits) := Bits_add_L5 fu nBt a0 fu (a1 - 1) sBt
abbrev rm_Bits_add : Room := { frames := 0, cells := 0, slots := 0, locals := 0 }
set_option maxHeartbeats 4000000 in
set_option maxRecDepth 100000 in
theorem c_Bits_add (l : Launch) (D : va_G) (K : Nat → ClassId) (fu : Nat) (hBt : Nat → Nat) (nBt : Nat) (sBt : S_Bits) (a0 : Int64) (a1 : Int32) (sBt' : S_Bits) (hf : Bits_add fu nBt a0 a1 sBt = some sBt') : mv l D K y_Bits_add ws_Bits_add rm_Bits_add [.ref (hBt 0), .long a0, .int a1] (fl [wBits K hBt nBt sBt]) (fl [wBits K hBt nBt sBt']) := by
  refine mv_of (cc := b_Bits_add) (maxL := 5) (own := "ObsMessages$Bits") (by decide) rfl rfl (Nat.le_of_ble_eq_true rfl) ?_
  intro p e s m below meth c A ls hC hP hD hS hl
  obtain ⟨hx, hb, hml, hown, hts, hr, hlocks, hK, hF, hA⟩ := hC
  have hP : va_P D vwCl (fl [wBits K hBt nBt sBt]) s.heap := hP
  have hl : lv_has ls 5 [(0, .ref (hBt 0)), (1, .long a0), (3, .int a1)] := hl
  suffices hW : ∀ (H : Heap) (locs : List Loc), va_P D vwCl (fl [wBits K hBt nBt sBt]) H → va_S A s.heap H locs → W p l e rm_Bits_add s m ([.ref (hBt 0), .long a0, .int a1] : List Value).toArray below meth c H locs 0 0 (Qv below ([.ref (hBt 0), .long a0, .int a1] : List Value).toArray s D K A (fl [wBits K hBt nBt sBt'])) (F0 m 0 ls []) from hW s.heap [] hP hS
  clear hP hS
  intro H locs hP hS
  refine lv_iload_n (pc := 0) hx hb d_Bits_add_0 rfl (lv_at hl 2 rfl) ?_
  refine lv_iconst (v := 1) (pc := 1) hx hb d_Bits_add_1 (by decide) ?_
  refine lv_isub (pc := 2) hx hb d_Bits_add_2 ?_
  refine lv_istore (lv' := [(4, .int (a1 - 1)), (0, .ref (hBt 0)), (1, .long a0), (3, .int a1)]) (pc := 3) hx hb d_Bits_add_3 hl (by decide) rfl (fun ls hl => ?_)
  have L5 : ∀ (x1_L5 : Int64) (n : Nat) (x4_L5 : Int32) (sBt_L5 : S_Bits) (H : Heap) (locs : List Loc) (ls : Array Slot), va_P D vwCl (fl [wBits K hBt nBt sBt_L5]) H → va_D A (fl [wBits K hBt nBt sBt_L5]) → va_S A s.heap H locs → lv_has ls 5 [(0, .ref (hBt 0)), (1, .long x1_L5), (4, .int x4_L5)] → Bits_add_L5 fu nBt x1_L5 n x4_L5 sBt_L5 = some sBt' → W p l e rm_Bits_add s m ([.ref (hBt 0), .long a0, .int a1] : List Value).toArray below meth c H locs 0 0 (Qv below ([.ref (hBt 0), .long a0, .int a1] : List Value).toArray s D K A (fl [wBits K hBt nBt sBt'])) (F0 m 5 ls []) := by
    intro x1_L5 n
    induction n with
    | zero =>
      intro x4_L5 sBt_L5 H locs ls hP hD hS hl hf
      exact absurd hf (fun h => nomatch h)
    | succ n_5 ih_5 =>
      intro x4_L5 sBt_L5 H locs ls hP hD hS hl hf
      have J62 : ∀ (x4_j62 : Int32) (sBt_j62 : S_Bits) (H : Heap) (locs : List Loc) (ls : Array Slot), va_P D vwCl (fl [wBits K hBt nBt sBt_j62]) H → va_D A (fl [wBits K hBt nBt sBt_j62]) → va_S A s.heap H locs → lv_has ls 5 [(0, .ref (hBt 0)), (1, .long x1_L5), (4, .int x4_j62)] → Bits_add_j62 fu nBt (fun v0 v1 => Bits_add_L5 fu nBt x1_L5 n_5 v0 v1) x1_L5 x4_j62 sBt_j62 = some sBt' → W p l e rm_Bits_add s m ([.ref (hBt 0), .long a0, .int a1] : List Value).toArray below meth c H locs 0 0 (Qv below ([.ref (hBt 0), .long a0, .int a1] : List Value).toArray s D K A (fl [wBits K hBt nBt sBt'])) (F0 m 62 ls []) := by
        intro x4_j62 sBt_j62 H locs ls hP hD hS hl hf
        refine lv_aload_n (pc := 62) hx hb d_Bits_add_62 rfl (lv_at hl 0 rfl) ?_
        refine lv_dup (pc := 63) hx hb d_Bits_add_63 rfl ?_
        refine va_get (D := D) (ci := 7) (v := .int (Bits_length sBt_j62)) (C := R_Bits) (T := T_Bits) (N := 2) (pc := 64) hx hb hts (fun w h => List.mem_cons_of_mem _ (in_Bits w h)) hown hK hP _ (fl_at 0 0 rfl rfl) rfl 1 (by decide) (hts _ (List.mem_cons_of_mem _ tw_283)) (fun _ h9 => h9) rfl d_Bits_add_64 ?_
        refine lv_iconst (v := 1) (pc := 67) hx hb d_Bits_add_67 (by decide) ?_
        refine lv_iadd (pc := 68) hx hb d_Bits_add_68 ?_
        refine va_put (D := D) (ci := 7) (v := .int ((Bits_length sBt_j62) + 1)) (ty := .int) (C := R_Bits) (T := T_Bits) (N := 2) (pc := 69) hx hb hts (fun w h => List.mem_cons_of_mem _ (in_Bits w h)) ty_Bits ty_Bits_ok nm_Bits hown hK hP hD hS _ (fl_at 0 0 rfl rfl) rfl 1 (by decide) (hts _ (List.mem_cons_of_mem _ tw_283)) (fun _ h9 => h9) rfl (by decide +kernel) rfl rfl (Nat.le_of_ble_eq_true rfl) d_Bits_add_69 (fun H locs hP hD hS => ?_)
        obtain ⟨sBt_7, esBt_7, hf⟩ := o_lt_e hf
        have hP : va_P D vwCl (fl [wBits K hBt nBt sBt_7]) H := by rw [esBt_7]; exact fl_P 0 0 rfl (Nat.le_of_ble_eq_true rfl) rfl rfl hP
        have hD : va_D A (fl [wBits K hBt nBt sBt_7]) := by rw [esBt_7]; exact fl_D 0 0 rfl (Nat.le_of_ble_eq_true rfl) rfl rfl hD
        refine lv_iinc (v := x4_j62 + (-1)) (lv' := [(4, .int (x4_j62 + (-1))), (0, .ref (hBt 0)), (1, .long x1_L5)]) (pc := 72) hx hb d_Bits_add_72 hl (k := 2) rfl rfl (by decide) rfl (fun ls hl => ?_)
        refine lv_goto (tgt := 5) (pc := 75) hx hb d_Bits_add_75 (by decide) ?_
        exact ih_5 (x4_j62 + (-1)) sBt_7 H locs ls hP hD hS (lv_sub hl [1, 2, 0] rfl) hf
      refine lv_iload (pc := 5) hx hb d_Bits_add_5 (lv_at hl 2 rfl) ?_
      refine lv_if_lt (tgt := 78) (pc := 7) hx hb d_Bits_add_7 (by decide) (fun c6 => ?_) (fun c6 => ?_)
      · replace hf := o_t c6 hf
        cases hf
        exact ret_v hx hb hr hlocks hK hP hS d_Bits_add_78
      · replace hf := o_f c6 hf
        refine lv_aload_n (pc := 10) hx hb d_Bits_add_10 rfl (lv_at hl 0 rfl) ?_
        refine va_get (D := D) (ci := 7) (v := .int (Bits_length sBt_L5)) (C := R_Bits) (T := T_Bits) (N := 2) (pc := 11) hx hb hts (fun w h => List.mem_cons_of_mem _ (in_Bits w h)) hown hK hP _ (fl_at 0 0 rfl rfl) rfl 1 (by decide) (hts _ (List.mem_cons_of_mem _ tw_283)) (fun _ h9 => h9) rfl d_Bits_add_11 ?_
        refine lv_bipush (v := 8) (pc := 14) hx hb d_Bits_add_14 (by decide) ?_
        refine lv_idiv (pc := 16) hx hb d_Bits_add_16 (by decide) ?_
        refine lv_aload_n (pc := 17) hx hb d_Bits_add_17 rfl (lv_at hl 0 rfl) ?_
        refine va_get (D := D) (ci := 7) (v := .ref (hBt 1)) (C := R_Bits) (T := T_Bits) (N := 2) (pc := 18) hx hb hts (fun w h => List.mem_cons_of_mem _ (in_Bits w h)) hown hK hP _ (fl_at 0 0 rfl rfl) rfl 0 (by decide) (hts _ (List.mem_cons_of_mem _ tw_279)) (fun _ h9 => h9) rfl d_Bits_add_18 ?_
        refine va_alen (D := D) (pc := 21) hx hb hK hP _ 0 (fl_at 0 1 rfl rfl) rfl rfl d_Bits_add_21 ?_
        refine lv_icmp_ge (tgt := 78) (pc := 22) hx hb d_Bits_add_22 (by decide) (fun c5 => ?_) (fun c5 => ?_)
        · replace hf := o_t c5 hf
          cases hf
          exact ret_v hx hb hr hlocks hK hP hS d_Bits_add_78
        · replace hf := o_f c5 hf
          refine lv_lload_n (pc := 25) hx hb d_Bits_add_25 rfl (lv_at hl 1 rfl) ?_
          refine lv_iload (pc := 26) hx hb d_Bits_add_26 (lv_at hl 2 rfl) ?_
          refine lv_lshr (pc := 28) hx hb d_Bits_add_28 rfl ?_
          refine lv_lconst (v := 1) (pc := 29) hx hb d_Bits_add_29 (by decide) ?_
          refine lv_land (pc := 30) hx hb d_Bits_add_30 ?_
          refine lv_lconst (v := 0) (pc := 31) hx hb d_Bits_add_31 (by decide) ?_
          refine lc_eq (tgt := 62) (pc := 32) hx hb d_Bits_add_32 d_Bits_add_33 (by decide) (fun c4 => ?_) (fun c4 => ?_)
          · replace hf := o_t c4 hf
            exact J62 x4_L5 sBt_L5 H locs ls hP hD hS (lv_sub hl [0, 1, 2] rfl) hf
          · replace hf := o_f c4 hf
            refine lv_aload_n (pc := 36) hx hb d_Bits_add_36 rfl (lv_at hl 0 rfl) ?_
            refine va_get (D := D) (ci := 7) (v := .ref (hBt 1)) (C := R_Bits) (T := T_Bits) (N := 2) (pc := 37) hx hb hts (fun w h => List.mem_cons_of_mem _ (in_Bits w h)) hown hK hP _ (fl_at 0 0 rfl rfl) rfl 0 (by decide) (hts _ (List.mem_cons_of_mem _ tw_279)) (fun _ h9 => h9) rfl d_Bits_add_37 ?_
            refine lv_aload_n (pc := 40) hx hb d_Bits_add_40 rfl (lv_at hl 0 rfl) ?_
            refine va_get (D := D) (ci := 7) (v := .int (Bits_length sBt_L5)) (C := R_Bits) (T := T_Bits) (N := 2) (pc := 41) hx hb hts (fun w h => List.mem_cons_of_mem _ (in_Bits w h)) hown hK hP _ (fl_at 0 0 rfl rfl) rfl 1 (by decide) (hts _ (List.mem_cons_of_mem _ tw_283)) (fun _ h9 => h9) rfl d_Bits_add_41 ?_
            refine lv_bipush (v := 8) (pc := 44) hx hb d_Bits_add_44 (by decide) ?_
            refine lv_idiv (pc := 46) hx hb d_Bits_add_46 (by decide) ?_
            refine lv_dup2_11 (pc := 47) hx hb d_Bits_add_47 rfl rfl ?_
            obtain ⟨hi1, hf⟩ := o_gi_e hf
            refine va_iald (D := D) (pc := 48) hx hb hK hP _ 0 (fl_at 0 1 rfl rfl) rfl hi1 d_Bits_add_48 ?_
            refine lv_sipush (v := 128) (pc := 49) hx hb d_Bits_add_49 (by decide) ?_
            refine lv_aload_n (pc := 52) hx hb d_Bits_add_52 rfl (lv_at hl 0 rfl) ?_
            refine va_get (D := D) (ci := 7) (v := .int (Bits_length sBt_L5)) (C := R_Bits) (T := T_Bits) (N := 2) (pc := 53) hx hb hts (fun w h => List.mem_cons_of_mem _ (in_Bits w h)) hown hK hP _ (fl_at 0 0 rfl rfl) rfl 1 (by decide) (hts _ (List.mem_cons_of_mem _ tw_283)) (fun _ h9 => h9) rfl d_Bits_add_53 ?_
            refine lv_bipush (v := 8) (pc := 56) hx hb d_Bits_add_56 (by decide) ?_
            refine lv_irem (pc := 58) hx hb d_Bits_add_58 (by decide) ?_
            refine lv_ishr (pc := 59) hx hb d_Bits_add_59 ?_
            refine lv_ior (pc := 60) hx hb d_Bits_add_60 ?_
            obtain ⟨hi2, hf⟩ := o_gi_e hf
            refine va_iast (D := D) (pc := 61) hx hb hK hP hD hS _ 0 (fl_at 0 1 rfl rfl) rfl hi2 d_Bits_add_61 (fun H locs hP hD hS => ?_)
            obtain ⟨sBt_3, esBt_3, hf⟩ := o_lt_e hf
            have hP : va_P D vwCl (fl [wBits K hBt nBt sBt_3]) H := by rw [esBt_3]; exact fl_P 0 1 rfl (Nat.le_of_ble_eq_true rfl) rfl rfl hP
            have hD : va_D A (fl [wBits K hBt nBt sBt_3]) := by rw [esBt_3]; exact fl_D 0 1 rfl (Nat.le_of_ble_eq_true rfl) rfl rfl hD
            exact J62 x4_L5 sBt_3 H locs ls hP hD hS (lv_sub hl [0, 1, 2] rfl) hf
  exact L5 a0 fu (a1 - 1) sBt H locs ls hP hD hS (lv_sub hl [1, 2, 0] rfl) hf
