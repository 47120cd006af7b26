def Arr_fill_aII_L5 (fu : Nat) (nRI : Nat) (x1_L5 : Int32) (x3_L5 : Int32) : Nat → Int32 → (Nat → Int32) → Option ((Nat → Int32))
  | 0, _, _ => none
  | n + 1, x2_L5, sRI_L5 => if x3_L5 ≤ x2_L5 then some sRI_L5 else o_gd (o_in x2_L5 nRI) (o_lt (upd sRI_L5 (x2_L5 : Int32).toNatClampNeg x1_L5) fun sRI_2 => (Arr_fill_aII_L5 fu nRI x1_L5 x3_L5 n (x2_L5 + 1) sRI_2))
def Arr_fill_aII (fu : Nat) (nRI : Nat) (a1 : Int32) (sRI : (Nat → Int32)) : Option ((Nat → Int32)) := Arr_fill_aII_L5 fu nRI a1 (Int32.ofNat nRI) fu 0 sRI
abbrev rm_Arr_fill_aII : Room := { frames := 0, cells := 0, slots := 0, locals := 0 }
set_option maxHeartbeats 4000000 in
set_option maxRecDepth 100000 in
theorem c_Arr_fill_aII (l : Launch) (D : va_G) (K : Nat → ClassId) (fu : Nat) (hRI : Nat → Nat) (nRI : Nat) (sRI : (Nat → Int32)) (a1 : Int32) (sRI' : (Nat → Int32)) (hf : Arr_fill_aII fu nRI a1 sRI = some sRI') : mv l D K y_Arr_fill_aII ws_Arr_fill_aII rm_Arr_fill_aII [.ref (hRI 0), .int a1] (fl [wRowI K hRI nRI sRI]) (fl [wRowI K hRI nRI sRI']) := by
  refine mv_of (cc := b_Arr_fill_aII) (maxL := 4) (own := "java/util/Arrays") (by decide) rfl rfl (Nat.le_of_ble_eq_true rfl) ?_
  intro p e s m below meth c A ls hC hP hD hS hl
  obtain ⟨hx, hb, hml, hown, hts, hr, hlocks, hK, hF, hA⟩ := hC
  have hP : va_P D vwCl (fl [wRowI K hRI nRI sRI]) s.heap := hP
  have hl : lv_has ls 4 [(0, .ref (hRI 0)), (1, .int a1)] := hl
  suffices hW : ∀ (H : Heap) (locs : List Loc), va_P D vwCl (fl [wRowI K hRI nRI sRI]) H → va_S A s.heap H locs → W p l e rm_Arr_fill_aII s m ([.ref (hRI 0), .int a1] : List Value).toArray below meth c H locs 0 0 (Qv below ([.ref (hRI 0), .int a1] : List Value).toArray s D K A (fl [wRowI K hRI nRI sRI'])) (F0 m 0 ls []) from hW s.heap [] hP hS
  clear hP hS
  intro H locs hP hS
  refine lv_iconst (v := 0) (pc := 0) hx hb d_Arr_fill_aII_0 (by decide) ?_
  refine lv_istore_n (lv' := [(2, .int 0), (0, .ref (hRI 0)), (1, .int a1)]) (pc := 1) hx hb d_Arr_fill_aII_1 rfl hl (by decide) rfl (fun ls hl => ?_)
  refine lv_aload_n (pc := 2) hx hb d_Arr_fill_aII_2 rfl (lv_at hl 1 rfl) ?_
  refine va_alen (D := D) (pc := 3) hx hb hK hP _ 0 (fl_at 0 0 rfl rfl) rfl rfl d_Arr_fill_aII_3 ?_
  refine lv_istore_n (lv' := [(3, .int (Int32.ofNat nRI)), (2, .int 0), (0, .ref (hRI 0)), (1, .int a1)]) (pc := 4) hx hb d_Arr_fill_aII_4 rfl hl (by decide) rfl (fun ls hl => ?_)
  have L5 : ∀ (x1_L5 : Int32) (x3_L5 : Int32) (n : Nat) (x2_L5 : Int32) (sRI_L5 : (Nat → Int32)) (H : Heap) (locs : List Loc) (ls : Array Slot), va_P D vwCl (fl [wRowI K hRI nRI sRI_L5]) H → va_D A (fl [wRowI K hRI nRI sRI_L5]) → va_S A s.heap H locs → lv_has ls 4 [(0, .ref (hRI 0)), (1, .int x1_L5), (2, .int x2_L5), (3, .int x3_L5)] → Arr_fill_aII_L5 fu nRI x1_L5 x3_L5 n x2_L5 sRI_L5 = some sRI' → W p l e rm_Arr_fill_aII s m ([.ref (hRI 0), .int a1] : List Value).toArray below meth c H locs 0 0 (Qv below ([.ref (hRI 0), .int a1] : List Value).toArray s D K A (fl [wRowI K hRI nRI sRI'])) (F0 m 5 ls []) := by
    intro x1_L5 x3_L5 n
    induction n with
    | zero =>
      intro x2_L5 sRI_L5 H locs ls hP hD hS hl hf
      exact absurd hf (fun h => nomatch h)
    | succ n_5 ih_5 =>
      intro x2_L5 sRI_L5 H locs ls hP hD hS hl hf
      refine lv_iload_n (pc := 5) hx hb d_Arr_fill_aII_5 rfl (lv_at hl 2 rfl) ?_
      refine lv_iload_n (pc := 6) hx hb d_Arr_fill_aII_6 rfl (lv_at hl 3 rfl) ?_
      refine lv_icmp_ge (tgt := 20) (pc := 7) hx hb d_Arr_fill_aII_7 (by decide) (fun c3 => ?_) (fun c3 => ?_)
      · replace hf := o_t c3 hf
        cases hf
        exact ret_v hx hb hr hlocks hK hP hS d_Arr_fill_aII_20
      · replace hf := o_f c3 hf
        refine lv_aload_n (pc := 10) hx hb d_Arr_fill_aII_10 rfl (lv_at hl 0 rfl) ?_
        refine lv_iload_n (pc := 11) hx hb d_Arr_fill_aII_11 rfl (lv_at hl 2 rfl) ?_
        refine lv_iload_n (pc := 12) hx hb d_Arr_fill_aII_12 rfl (lv_at hl 1 rfl) ?_
        obtain ⟨hi1, hf⟩ := o_gi_e hf
        refine va_iast (D := D) (pc := 13) hx hb hK hP hD hS _ 0 (fl_at 0 0 rfl rfl) rfl hi1 d_Arr_fill_aII_13 (fun H locs hP hD hS => ?_)
        obtain ⟨sRI_2, esRI_2, hf⟩ := o_lt_e hf
        have hP : va_P D vwCl (fl [wRowI K hRI nRI sRI_2]) H := by rw [esRI_2]; exact fl_P 0 0 rfl (Nat.le_of_ble_eq_true rfl) rfl rfl hP
        have hD : va_D A (fl [wRowI K hRI nRI sRI_2]) := by rw [esRI_2]; exact fl_D 0 0 rfl (Nat.le_of_ble_eq_true rfl) rfl rfl hD
        refine lv_iinc (v := x2_L5 + 1) (lv' := [(2, .int (x2_L5 + 1)), (0, .ref (hRI 0)), (1, .int x1_L5), (3, .int x3_L5)]) (pc := 14) hx hb d_Arr_fill_aII_14 hl (k := 2) rfl rfl (by decide) rfl (fun ls hl => ?_)
        refine lv_goto (tgt := 5) (pc := 17) hx hb d_Arr_fill_aII_17 (by decide) ?_
        exact ih_5 (x2_L5 + 1) sRI_2 H locs ls hP hD hS (lv_sub hl [1, 2, 0, 3] rfl) hf
  exact L5 a1 (Int32.ofNat nRI) fu 0 sRI H locs ls hP hD hS (lv_sub hl [2, 3, 1, 0] rfl) hf
def Arr_fill_aJJ_L6 (fu : Nat) (nRW : Nat) (x1_L6 : Int64) (x4_L6 : Int32) : Nat → Int32 → (Nat → Int64) → Option ((Nat → Int64))
  | 0, _, _ => none
  | n + 1, x3_L6, sRW_L6 => if x4_L6 ≤ x3_L6 then some sRW_L6 else o_gd (o_in x3_L6 nRW) (o_lt (vp_updL sRW_L6 (x3_L6 : Int32).toNatClampNeg x1_L6) fun sRW_2 => (Arr_fill_aJJ_L6 fu nRW x1_L6 x4_L6 n (x3_L6 + 1) sRW_2))
def Arr_fill_aJJ (fu : Nat) (nRW : Nat) (a1 : Int64) (sRW : (Nat → Int64)) : Option ((Nat → Int64)) := Arr_fill_aJJ_L6 fu nRW a1 (Int32.ofNat nRW) fu 0 sRW
abbrev rm_Arr_fill_aJJ : Room := { frames := 0, cells := 0, slots := 0, locals := 0 }
set_option maxHeartbeats 4000000 in
set_option maxRecDepth 100000 in
theorem c_Arr_fill_aJJ (l : Launch) (D : va_G) (K : Nat → ClassId) (fu : Nat) (hRW : Nat → Nat) (nRW : Nat) (sRW : (Nat → Int64)) (a1 : Int64) (sRW' : (Nat → Int64)) (hf : Arr_fill_aJJ fu nRW a1 sRW = some sRW') : mv l D K y_Arr_fill_aJJ ws_Arr_fill_aJJ rm_Arr_fill_aJJ [.ref (hRW 0), .long a1] (fl [wRow K hRW nRW sRW]) (fl [wRow K hRW nRW sRW']) := by
  refine mv_of (cc := b_Arr_fill_aJJ) (maxL := 5) (own := "java/util/Arrays") (by decide) rfl rfl (Nat.le_of_ble_eq_true rfl) ?_
  intro p e s m below meth c A ls hC hP hD hS hl
  obtain ⟨hx, hb, hml, hown, hts, hr, hlocks, hK, hF, hA⟩ := hC
  have hP : va_P D vwCl (fl [wRow K hRW nRW sRW]) s.heap := hP
  have hl : lv_has ls 5 [(0, .ref (hRW 0)), (1, .long a1)] := hl
  suffices hW : ∀ (H : Heap) (locs : List Loc), va_P D vwCl (fl [wRow K hRW nRW sRW]) H → va_S A s.heap H locs → W p l e rm_Arr_fill_aJJ s m ([.ref (hRW 0), .long a1] : List Value).toArray below meth c H locs 0 0 (Qv below ([.ref (hRW 0), .long a1] : List Value).toArray s D K A (fl [wRow K hRW nRW sRW'])) (F0 m 0 ls []) from hW s.heap [] hP hS
  clear hP hS
  intro H locs hP hS
  refine lv_iconst (v := 0) (pc := 0) hx hb d_Arr_fill_aJJ_0 (by decide) ?_
  refine lv_istore_n (lv' := [(3, .int 0), (0, .ref (hRW 0)), (1, .long a1)]) (pc := 1) hx hb d_Arr_fill_aJJ_1 rfl hl (by decide) rfl (fun ls hl => ?_)
  refine lv_aload_n (pc := 2) hx hb d_Arr_fill_aJJ_2 rfl (lv_at hl 1 rfl) ?_
  refine va_alen (D := D) (pc := 3) hx hb hK hP _ 1 (fl_at 0 0 rfl rfl) rfl rfl d_Arr_fill_aJJ_3 ?_
  refine lv_istore (lv' := [(4, .int (Int32.ofNat nRW)), (3, .int 0), (0, .ref (hRW 0)), (1, .long a1)]) (pc := 4) hx hb d_Arr_fill_aJJ_4 hl (by decide) rfl (fun ls hl => ?_)
  have L6 : ∀ (x1_L6 : Int64) (x4_L6 : Int32) (n : Nat) (x3_L6 : Int32) (sRW_L6 : (Nat → Int64)) (H : Heap) (locs : List Loc) (ls : Array Slot), va_P D vwCl (fl [wRow K hRW nRW sRW_L6]) H → va_D A (fl [wRow K hRW nRW sRW_L6]) → va_S A s.heap H locs → lv_has ls 5 [(0, .ref (hRW 0)), (1, .long x1_L6), (3, .int x3_L6), (4, .int x4_L6)] → Arr_fill_aJJ_L6 fu nRW x1_L6 x4_L6 n x3_L6 sRW_L6 = some sRW' → W p l e rm_Arr_fill_aJJ s m ([.ref (hRW 0), .long a1] : List Value).toArray below meth c H locs 0 0 (Qv below ([.ref (hRW 0), .long a1] : List Value).toArray s D K A (fl [wRow K hRW nRW sRW'])) (F0 m 6 ls []) := by
    intro x1_L6 x4_L6 n
    induction n with
    | zero =>
      intro x3_L6 sRW_L6 H locs ls hP hD hS hl hf
      exact absurd hf (fun h => nomatch h)
    | succ n_6 ih_6 =>
      intro x3_L6 sRW_L6 H locs ls hP hD hS hl hf
      refine lv_iload_n (pc := 6) hx hb d_Arr_fill_aJJ_6 rfl (lv_at hl 2 rfl) ?_
      refine lv_iload (pc := 7) hx hb d_Arr_fill_aJJ_7 (lv_at hl 3 rfl) ?_
      refine lv_icmp_ge (tgt := 22) (pc := 9) hx hb d_Arr_fill_aJJ_9 (by decide) (fun c3 => ?_) (fun c3 => ?_)
      · replace hf := o_t c3 hf
        cases hf
        exact ret_v hx hb hr hlocks hK hP hS d_Arr_fill_aJJ_22
      · replace hf := o_f c3 hf
        refine lv_aload_n (pc := 12) hx hb d_Arr_fill_aJJ_12 rfl (lv_at hl 0 rfl) ?_
        refine lv_iload_n (pc := 13) hx hb d_Arr_fill_aJJ_13 rfl (lv_at hl 2 rfl) ?_
        refine lv_lload_n (pc := 14) hx hb d_Arr_fill_aJJ_14 rfl (lv_at hl 1 rfl) ?_
        obtain ⟨hi1, hf⟩ := o_gi_e hf
        refine va_last (D := D) (pc := 15) hx hb hK hP hD hS _ 1 (fl_at 0 0 rfl rfl) rfl hi1 d_Arr_fill_aJJ_15 (fun H locs hP hD hS => ?_)
        obtain ⟨sRW_2, esRW_2, hf⟩ := o_lt_e hf
        have hP : va_P D vwCl (fl [wRow K hRW nRW sRW_2]) H := by rw [esRW_2]; exact fl_P 0 0 rfl (Nat.le_of_ble_eq_true rfl) rfl rfl hP
        have hD : va_D A (fl [wRow K hRW nRW sRW_2]) := by rw [esRW_2]; exact fl_D 0 0 rfl (Nat.le_of_ble_eq_true rfl) rfl rfl hD
        refine lv_iinc (v := x3_L6 + 1) (lv' := [(3, .int (x3_L6 + 1)), (0, .ref (hRW 0)), (1, .long x1_L6), (4, .int x4_L6)]) (pc := 16) hx hb d_Arr_fill_aJJ_16 hl (k := 2) rfl rfl (by decide) rfl (fun ls hl => ?_)
        refine lv_goto (tgt := 6) (pc := 19) hx hb d_Arr_fill_aJJ_19 (by decide) ?_
        exact ih_6 (x3_L6 + 1) sRW_2 H locs ls hP hD hS (lv_sub hl [1, 2, 0, 3] rfl) hf
  exact L6 a1 (Int32.ofNat nRW) fu 0 sRW H locs ls hP hD hS (lv_sub hl [2, 3, 1, 0] rfl) hf
def Bits_empty (fu : Nat) (nBt : Nat) (sBt : S_Bits) : Option (S_Bits) := o_bd (Arr_fill_aII fu nBt 0 (Bits_bytes sBt)) fun q1 => (o_lt (Bits_set_length (Bits_set_bytes sBt q1) 0) fun sBt_2 => (some sBt_2))
abbrev rm_Bits_empty : Room := { frames := 1, cells := 0, slots := 0, locals := 23 }
set_option maxHeartbeats 4000000 in
set_option maxRecDepth 100000 in
theorem c_Bits_empty (l : Launch) (D : va_G) (K : Nat → ClassId) (fu : Nat) (hBt : Nat → Nat) (nBt : Nat) (sBt : S_Bits) (sBt' : S_Bits) (hf : Bits_empty fu nBt sBt = some sBt') : mv l D K y_Bits_empty ws_Bits_empty rm_Bits_empty [.ref (hBt 0)] (fl [wBits K hBt nBt sBt]) (fl [wBits K hBt nBt sBt']) := by
  refine mv_of (cc := b_Bits_empty) (maxL := 1) (own := "ObsMessages$Bits") (by decide) rfl rfl (Nat.le_of_ble_eq_true rfl) ?_
  intro p e s m below meth c A ls hC hP hD hS hl
  obtain ⟨hx, hb, hml, hown, hts, hr, hlocks, hK, hF, hA⟩ := hC
  have hP : va_P D vwCl (fl [wBits K hBt nBt sBt]) s.heap := hP
  have hl : lv_has ls 1 [(0, .ref (hBt 0))] := hl
  suffices hW : ∀ (H : Heap) (locs : List Loc), va_P D vwCl (fl [wBits K hBt nBt sBt]) H → va_S A s.heap H locs → W p l e rm_Bits_empty s m ([.ref (hBt 0)] : List Value).toArray below meth c H locs 0 0 (Qv below ([.ref (hBt 0)] : List Value).toArray s D K A (fl [wBits K hBt nBt sBt'])) (F0 m 0 ls []) from hW s.heap [] hP hS
  clear hP hS
  intro H locs hP hS
  refine lv_aload_n (pc := 0) hx hb d_Bits_empty_0 rfl (lv_at hl 0 rfl) ?_
  refine va_get (D := D) (ci := 7) (v := .ref (hBt 1)) (C := R_Bits) (T := T_Bits) (N := 2) (pc := 1) hx hb hts (fun w h => List.mem_cons_of_mem _ (in_Bits w h)) hown hK hP _ (fl_at 0 0 rfl rfl) rfl 0 (by decide) (hts _ (List.mem_cons_of_mem _ tw_279)) (fun _ h9 => h9) rfl d_Bits_empty_1 ?_
  refine lv_iconst (v := 0) (pc := 4) hx hb d_Bits_empty_4 (by decide) ?_
  obtain ⟨q1, hq1, hf⟩ := o_bd_e hf
  refine go_v (pc := 5) (va_runS (As := [.ref (hBt 1), .int 0]) (rest := []) ⟨hx, hb, hml, hown, hts⟩ ((c_Arr_fill_aII l D K fu (fun _ => hBt 1) nBt (Bits_bytes sBt) 0 q1 hq1) _) (va_cwS 2 hts (gT tw_924 tw_447 tw_11 tw_448) rfl rfl rfl (by decide +kernel) ⟨by decide, by decide⟩) ⟨mPre_blind, (mPre_at hK hF hA hP hD hS [_] (congrArg (fun x => [x]) (fl_at 0 1 rfl rfl)) rfl)⟩ rfl rfl hl.1 rfl (lv_room (Nat.le_of_ble_eq_true rfl)) d_Bits_empty_5 ⟨Nat.zero_le _, Nat.zero_le _⟩) hA hP hD hS [_] (congrArg (fun x => [x]) (fl_at 0 1 rfl rfl)) rfl (fun H locs hP hD hS => ?_)
  have hP : va_P D vwCl (fl [wBits K hBt nBt (Bits_set_bytes sBt q1)]) H := fl_P 0 1 rfl (Nat.le_of_ble_eq_true rfl) rfl rfl hP
  have hD : va_D A (fl [wBits K hBt nBt (Bits_set_bytes sBt q1)]) := fl_D 0 1 rfl (Nat.le_of_ble_eq_true rfl) rfl rfl hD
  refine lv_aload_n (pc := 8) hx hb d_Bits_empty_8 rfl (lv_at hl 0 rfl) ?_
  refine lv_iconst (v := 0) (pc := 9) hx hb d_Bits_empty_9 (by decide) ?_
  refine va_put (D := D) (ci := 7) (v := .int 0) (ty := .int) (C := R_Bits) (T := T_Bits) (N := 2) (pc := 10) hx hb hts (fun w h => List.mem_cons_of_mem _ (in_Bits w h)) ty_Bits ty_Bits_ok nm_Bits hown hK hP hD hS _ (fl_at 0 0 rfl rfl) rfl 1 (by decide) (hts _ (List.mem_cons_of_mem _ tw_283)) (fun _ h9 => h9) rfl (by decide +kernel) rfl rfl (Nat.le_of_ble_eq_true rfl) d_Bits_empty_10 (fun H locs hP hD hS => ?_)
  obtain ⟨sBt_2, esBt_2, hf⟩ := o_lt_e hf
  have hP : va_P D vwCl (fl [wBits K hBt nBt sBt_2]) H := by rw [esBt_2]; exact fl_P 0 0 rfl (Nat.le_of_ble_eq_true rfl) rfl rfl hP
  have hD : va_D A (fl [wBits K hBt nBt sBt_2]) := by rw [esBt_2]; exact fl_D 0 0 rfl (Nat.le_of_ble_eq_true rfl) rfl rfl hD
  cases hf
  exact ret_v hx hb hr hlocks hK hP hS d_Bits_empty_13
