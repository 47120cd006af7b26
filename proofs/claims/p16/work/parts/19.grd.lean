def Grd_isBare_L2 (fu : Nat) (sGrd : S_Grd) : Nat → Int32 → Option (Int32)
  | 0, _ => none
  | n + 1, x1_L2 => if 64 ≤ x1_L2 then some 1 else o_gd (o_in x1_L2 64) (if (Grd_points sGrd (x1_L2 : Int32).toNatClampNeg) = ((-9000000000000000000)) then Grd_isBare_L2 fu sGrd n (x1_L2 + 1) else some 0)
def Grd_isBare (fu : Nat) (sGrd : S_Grd) : Option (Int32) := Grd_isBare_L2 fu sGrd fu 0
abbrev rm_Grd_isBare : Room := { frames := 0, cells := 0, slots := 0, locals := 0 }
set_option maxHeartbeats 4000000 in
set_option maxRecDepth 100000 in
theorem c_Grd_isBare (l : Launch) (D : va_G) (K : Nat → ClassId) (fu : Nat) (hGrd : Nat → Nat) (sGrd : S_Grd) (r : Int32) (hf : Grd_isBare fu sGrd = some r) : mi l D K y_Grd_isBare ws_Grd_isBare rm_Grd_isBare [.ref (hGrd 0)] (fl [wGrd K hGrd sGrd]) (fl [wGrd K hGrd sGrd]) r := by
  refine mi_of (cc := b_Grd_isBare) (maxL := 2) (own := "ObsMessages$Grid") (by decide) rfl rfl (Nat.le_of_ble_eq_true rfl) ?_
  intro p e s m below meth c A ls hC hP hD hS hl
  obtain ⟨hx, hb, hml, hown, hts, hr, hlocks, hK, hF, hA⟩ := hC
  have hP : va_P D vwCl (fl [wGrd K hGrd sGrd]) s.heap := hP
  have hl : lv_has ls 2 [(0, .ref (hGrd 0))] := hl
  suffices hW : ∀ (H : Heap) (locs : List Loc), va_P D vwCl (fl [wGrd K hGrd sGrd]) H → va_S A s.heap H locs → W p l e rm_Grd_isBare s m ([.ref (hGrd 0)] : List Value).toArray below meth c H locs 0 0 (Qi below ([.ref (hGrd 0)] : List Value).toArray s D K A (fl [wGrd K hGrd sGrd]) r) (F0 m 0 ls []) from hW s.heap [] hP hS
  clear hP hS
  intro H locs hP hS
  refine lv_iconst (v := 0) (pc := 0) hx hb d_Grd_isBare_0 (by decide) ?_
  refine lv_istore_n (lv' := [(1, .int 0), (0, .ref (hGrd 0))]) (pc := 1) hx hb d_Grd_isBare_1 rfl hl (by decide) rfl (fun ls hl => ?_)
  have L2 : ∀  (n : Nat) (x1_L2 : Int32) (H : Heap) (locs : List Loc) (ls : Array Slot), va_P D vwCl (fl [wGrd K hGrd sGrd]) H → va_D A (fl [wGrd K hGrd sGrd]) → va_S A s.heap H locs → lv_has ls 2 [(0, .ref (hGrd 0)), (1, .int x1_L2)] → Grd_isBare_L2 fu sGrd n x1_L2 = some r → W p l e rm_Grd_isBare s m ([.ref (hGrd 0)] : List Value).toArray below meth c H locs 0 0 (Qi below ([.ref (hGrd 0)] : List Value).toArray s D K A (fl [wGrd K hGrd sGrd]) r) (F0 m 2 ls []) := by
    intro n
    induction n with
    | zero =>
      intro x1_L2 H locs ls hP hD hS hl hf
      exact absurd hf (fun h => nomatch h)
    | succ n_2 ih_2 =>
      intro x1_L2 H locs ls hP hD hS hl hf
      refine lv_iload_n (pc := 2) hx hb d_Grd_isBare_2 rfl (lv_at hl 1 rfl) ?_
      refine lv_bipush (v := 64) (pc := 3) hx hb d_Grd_isBare_3 (by decide) ?_
      refine lv_icmp_ge (tgt := 29) (pc := 5) hx hb d_Grd_isBare_5 (by decide) (fun c3 => ?_) (fun c3 => ?_)
      · replace hf := o_t c3 hf
        refine lv_iconst (v := 1) (pc := 29) hx hb d_Grd_isBare_29 (by decide) ?_
        cases hf
        exact ret_z hx hb hr hlocks hK hP hS rfl d_Grd_isBare_30
      · replace hf := o_f c3 hf
        refine lv_aload_n (pc := 8) hx hb d_Grd_isBare_8 rfl (lv_at hl 0 rfl) ?_
        refine va_get (D := D) (ci := 9) (v := .ref (hGrd 1)) (C := R_Grd) (T := T_Grd) (N := 9) (pc := 9) hx hb hts (fun w h => List.mem_cons_of_mem _ (in_Grd w h)) hown hK hP _ (fl_at 0 0 rfl rfl) rfl 0 (by decide) (hts _ (List.mem_cons_of_mem _ tw_346)) (fun _ h9 => h9) rfl d_Grd_isBare_9 ?_
        refine lv_iload_n (pc := 12) hx hb d_Grd_isBare_12 rfl (lv_at hl 1 rfl) ?_
        obtain ⟨hi1, hf⟩ := o_gi_e hf
        refine va_lald (D := D) (pc := 13) hx hb hK hP _ 1 (fl_at 0 1 rfl rfl) rfl hi1 d_Grd_isBare_13 ?_
        refine lv_ldc2 (pc := 14) hx hb hown (hts _ (List.mem_cons_of_mem _ tw_342)) d_Grd_isBare_14 ?_
        refine lc_eq (tgt := 23) (pc := 17) hx hb d_Grd_isBare_17 d_Grd_isBare_18 (by decide) (fun c2 => ?_) (fun c2 => ?_)
        · replace hf := o_t c2 hf
          refine lv_iinc (v := x1_L2 + 1) (lv' := [(1, .int (x1_L2 + 1)), (0, .ref (hGrd 0))]) (pc := 23) hx hb d_Grd_isBare_23 hl (k := 1) rfl rfl (by decide) rfl (fun ls hl => ?_)
          refine lv_goto (tgt := 2) (pc := 26) hx hb d_Grd_isBare_26 (by decide) ?_
          exact ih_2 (x1_L2 + 1) H locs ls hP hD hS (lv_sub hl [1, 0] rfl) hf
        · replace hf := o_f c2 hf
          refine lv_iconst (v := 0) (pc := 21) hx hb d_Grd_isBare_21 (by decide) ?_
          cases hf
          exact ret_z hx hb hr hlocks hK hP hS rfl d_Grd_isBare_22
  exact L2 fu 0 H locs ls hP hD hS (lv_sub hl [1, 0] rfl) hf
def Grd_inOrder_j25 (x1_j25 : Int32) (t0_j25 : Int32) : Option (Int32) := some ((8 * x1_j25) + t0_j25)
def Grd_inOrder (a0 : Int32) : Option (Int32) := if ((a0 / 8) - (a0 / 8) / 2 * 2) = 0 then Grd_inOrder_j25 (a0 / 8) (a0 - a0 / 8 * 8) else Grd_inOrder_j25 (a0 / 8) (7 - (a0 - a0 / 8 * 8))
abbrev rm_Grd_inOrder : Room := { frames := 0, cells := 0, slots := 0, locals := 0 }
set_option maxHeartbeats 4000000 in
set_option maxRecDepth 100000 in
theorem c_Grd_inOrder (l : Launch) (D : va_G) (K : Nat → ClassId) (a0 : Int32) (r : Int32) (hf : Grd_inOrder a0 = some r) : mi l D K y_Grd_inOrder ws_Grd_inOrder rm_Grd_inOrder [.int a0] (fl []) (fl []) r := by
  refine mi_of (cc := b_Grd_inOrder) (maxL := 3) (own := "ObsMessages$Grid") (by decide) rfl rfl (Nat.le_of_ble_eq_true rfl) ?_
  intro p e s m below meth c A ls hC hP hD hS hl
  obtain ⟨hx, hb, hml, hown, hts, hr, hlocks, hK, hF, hA⟩ := hC
  have hP : va_P D vwCl (fl []) s.heap := hP
  have hl : lv_has ls 3 [(0, .int a0)] := hl
  suffices hW : ∀ (H : Heap) (locs : List Loc), va_P D vwCl (fl []) H → va_S A s.heap H locs → W p l e rm_Grd_inOrder s m ([.int a0] : List Value).toArray below meth c H locs 0 0 (Qi below ([.int a0] : List Value).toArray s D K A (fl []) r) (F0 m 0 ls []) from hW s.heap [] hP hS
  clear hP hS
  intro H locs hP hS
  have J25 : ∀ (x1_j25 : Int32) (t0_j25 : Int32) (H : Heap) (locs : List Loc) (ls : Array Slot), va_P D vwCl (fl []) H → va_D A (fl []) → va_S A s.heap H locs → lv_has ls 3 [(1, .int x1_j25)] → Grd_inOrder_j25 x1_j25 t0_j25 = some r → W p l e rm_Grd_inOrder s m ([.int a0] : List Value).toArray below meth c H locs 0 0 (Qi below ([.int a0] : List Value).toArray s D K A (fl []) r) (F0 m 25 ls [.int t0_j25]) := by
    intro x1_j25 t0_j25 H locs ls hP hD hS hl hf
    refine lv_istore_n (lv' := [(2, .int t0_j25), (1, .int x1_j25)]) (pc := 25) hx hb d_Grd_inOrder_25 rfl hl (by decide) rfl (fun ls hl => ?_)
    refine lv_bipush (v := 8) (pc := 26) hx hb d_Grd_inOrder_26 (by decide) ?_
    refine lv_iload_n (pc := 28) hx hb d_Grd_inOrder_28 rfl (lv_at hl 1 rfl) ?_
    refine lv_imul (pc := 29) hx hb d_Grd_inOrder_29 ?_
    refine lv_iload_n (pc := 30) hx hb d_Grd_inOrder_30 rfl (lv_at hl 0 rfl) ?_
    refine lv_iadd (pc := 31) hx hb d_Grd_inOrder_31 ?_
    cases hf
    exact ret_i hx hb hr hlocks hK hP hS d_Grd_inOrder_32
  refine lv_iload_n (pc := 0) hx hb d_Grd_inOrder_0 rfl (lv_at hl 0 rfl) ?_
  refine lv_bipush (v := 8) (pc := 1) hx hb d_Grd_inOrder_1 (by decide) ?_
  refine lv_idiv (pc := 3) hx hb d_Grd_inOrder_3 (by decide) ?_
  refine lv_istore_n (lv' := [(1, .int (a0 / 8)), (0, .int a0)]) (pc := 4) hx hb d_Grd_inOrder_4 rfl hl (by decide) rfl (fun ls hl => ?_)
  refine lv_iload_n (pc := 5) hx hb d_Grd_inOrder_5 rfl (lv_at hl 0 rfl) ?_
  refine lv_iconst (v := 2) (pc := 6) hx hb d_Grd_inOrder_6 (by decide) ?_
  refine lv_irem (pc := 7) hx hb d_Grd_inOrder_7 (by decide) ?_
  refine lv_if_ne (tgt := 18) (pc := 8) hx hb d_Grd_inOrder_8 (by decide) (fun c1 => ?_) (fun c1 => ?_)
  · replace hf := o_f c1 hf
    refine lv_bipush (v := 7) (pc := 18) hx hb d_Grd_inOrder_18 (by decide) ?_
    refine lv_iload_n (pc := 20) hx hb d_Grd_inOrder_20 rfl (lv_at hl 1 rfl) ?_
    refine lv_bipush (v := 8) (pc := 21) hx hb d_Grd_inOrder_21 (by decide) ?_
    refine lv_irem (pc := 23) hx hb d_Grd_inOrder_23 (by decide) ?_
    refine lv_isub (pc := 24) hx hb d_Grd_inOrder_24 ?_
    exact J25 (a0 / 8) (7 - (a0 - a0 / 8 * 8)) H locs ls hP hD hS (lv_sub hl [0] rfl) hf
  · replace hf := o_t c1 hf
    refine lv_iload_n (pc := 11) hx hb d_Grd_inOrder_11 rfl (lv_at hl 1 rfl) ?_
    refine lv_bipush (v := 8) (pc := 12) hx hb d_Grd_inOrder_12 (by decide) ?_
    refine lv_irem (pc := 14) hx hb d_Grd_inOrder_14 (by decide) ?_
    refine lv_goto (tgt := 25) (pc := 15) hx hb d_Grd_inOrder_15 (by decide) ?_
    exact J25 (a0 / 8) (a0 - a0 / 8 * 8) H locs ls hP hD hS (lv_sub hl [0] rfl) hf
def Grd_takeCode (a0 : Int32) (a1 : Int64) (a2 : Int32) (sGrd : S_Grd) : Option (S_Grd) := o_gd (o_in a0 64) (o_lt (Grd_put_packed sGrd (a0 : Int32).toNatClampNeg ((-9000000000000000000))) fun sGrd_2 => (o_gd (o_in a0 64) (if (Grd_points sGrd_2 (a0 : Int32).toNatClampNeg) = ((-9000000000000000000)) then some sGrd_2 else o_gd (o_in a0 64) (o_gd (o_in (Grd_codeCount sGrd_2) 64) (o_lt (Grd_put_codes sGrd_2 (Grd_codeCount sGrd_2 : Int32).toNatClampNeg (((Grd_points sGrd_2 (a0 : Int32).toNatClampNeg) - a1) >>> ((a2 : Int32).toInt64 &&& 63))) fun sGrd_6 => (o_gd (o_in (Grd_codeCount sGrd_6) 64) (o_gd (o_in a0 64) (o_lt (Grd_put_packed sGrd_6 (a0 : Int32).toNatClampNeg (a1 + ((Grd_codes sGrd_6 (Grd_codeCount sGrd_6 : Int32).toNatClampNeg) <<< ((a2 : Int32).toInt64 &&& 63)))) fun sGrd_9 => (o_lt (Grd_set_codeCount sGrd_9 ((Grd_codeCount sGrd_9) + 1)) fun sGrd_10 => (some sGrd_10))))))))))
abbrev rm_Grd_takeCode : Room := { frames := 0, cells := 0, slots := 0, locals := 0 }
set_option maxHeartbeats 4000000 in
set_option maxRecDepth 100000 in
theorem c_Grd_takeCode (l : Launch) (D : va_G) (K : Nat → ClassId) (hGrd : Nat → Nat) (sGrd : S_Grd) (a0 : Int32) (a1 : Int64) (a2 : Int32) (sGrd' : S_Grd) (hf : Grd_takeCode a0 a1 a2 sGrd = some sGrd') : mv l D K y_Grd_takeCode ws_Grd_takeCode rm_Grd_takeCode [.ref (hGrd 0), .int a0, .long a1, .int a2] (fl [wGrd K hGrd sGrd]) (fl [wGrd K hGrd sGrd']) := by
  refine mv_of (cc := b_Grd_takeCode) (maxL := 5) (own := "ObsMessages$Grid") (by decide) rfl rfl (Nat.le_of_ble_eq_true rfl) ?_
  intro p e s m below meth c A ls hC hP hD hS hl
  obtain ⟨hx, hb, hml, hown, hts, hr, hlocks, hK, hF, hA⟩ := hC
  have hP : va_P D vwCl (fl [wGrd K hGrd sGrd]) s.heap := hP
  have hl : lv_has ls 5 [(0, .ref (hGrd 0)), (1, .int a0), (2, .long a1), (4, .int a2)] := hl
  suffices hW : ∀ (H : Heap) (locs : List Loc), va_P D vwCl (fl [wGrd K hGrd sGrd]) H → va_S A s.heap H locs → W p l e rm_Grd_takeCode s m ([.ref (hGrd 0), .int a0, .long a1, .int a2] : List Value).toArray below meth c H locs 0 0 (Qv below ([.ref (hGrd 0), .int a0, .long a1, .int a2] : List Value).toArray s D K A (fl [wGrd K hGrd sGrd'])) (F0 m 0 ls []) from hW s.heap [] hP hS
  clear hP hS
  intro H locs hP hS
  refine lv_aload_n (pc := 0) hx hb d_Grd_takeCode_0 rfl (lv_at hl 0 rfl) ?_
  refine va_get (D := D) (ci := 9) (v := .ref (hGrd 2)) (C := R_Grd) (T := T_Grd) (N := 9) (pc := 1) hx hb hts (fun w h => List.mem_cons_of_mem _ (in_Grd w h)) hown hK hP _ (fl_at 0 0 rfl rfl) rfl 1 (by decide) (hts _ (List.mem_cons_of_mem _ tw_348)) (fun _ h9 => h9) rfl d_Grd_takeCode_1 ?_
  refine lv_iload_n (pc := 4) hx hb d_Grd_takeCode_4 rfl (lv_at hl 1 rfl) ?_
  refine lv_ldc2 (pc := 5) hx hb hown (hts _ (List.mem_cons_of_mem _ tw_342)) d_Grd_takeCode_5 ?_
  obtain ⟨hi1, hf⟩ := o_gi_e hf
  refine va_last (D := D) (pc := 8) hx hb hK hP hD hS _ 1 (fl_at 0 2 rfl rfl) rfl hi1 d_Grd_takeCode_8 (fun H locs hP hD hS => ?_)
  obtain ⟨sGrd_2, esGrd_2, hf⟩ := o_lt_e hf
  have hP : va_P D vwCl (fl [wGrd K hGrd sGrd_2]) H := by rw [esGrd_2]; exact fl_P 0 2 rfl (Nat.le_of_ble_eq_true rfl) rfl rfl hP
  have hD : va_D A (fl [wGrd K hGrd sGrd_2]) := by rw [esGrd_2]; exact fl_D 0 2 rfl (Nat.le_of_ble_eq_true rfl) rfl rfl hD
  refine lv_aload_n (pc := 9) hx hb d_Grd_takeCode_9 rfl (lv_at hl 0 rfl) ?_
  refine va_get (D := D) (ci := 9) (v := .ref (hGrd 1)) (C := R_Grd) (T := T_Grd) (N := 9) (pc := 10) hx hb hts (fun w h => List.mem_cons_of_mem _ (in_Grd w h)) hown hK hP _ (fl_at 0 0 rfl rfl) rfl 0 (by decide) (hts _ (List.mem_cons_of_mem _ tw_346)) (fun _ h9 => h9) rfl d_Grd_takeCode_10 ?_
  refine lv_iload_n (pc := 13) hx hb d_Grd_takeCode_13 rfl (lv_at hl 1 rfl) ?_
  obtain ⟨hi3, hf⟩ := o_gi_e hf
  refine va_lald (D := D) (pc := 14) hx hb hK hP _ 1 (fl_at 0 1 rfl rfl) rfl hi3 d_Grd_takeCode_14 ?_
  refine lv_ldc2 (pc := 15) hx hb hown (hts _ (List.mem_cons_of_mem _ tw_342)) d_Grd_takeCode_15 ?_
  refine lc_eq (tgt := 72) (pc := 18) hx hb d_Grd_takeCode_18 d_Grd_takeCode_19 (by decide) (fun c11 => ?_) (fun c11 => ?_)
  · replace hf := o_t c11 hf
    cases hf
    exact ret_v hx hb hr hlocks hK hP hS d_Grd_takeCode_72
  · replace hf := o_f c11 hf
    refine lv_aload_n (pc := 22) hx hb d_Grd_takeCode_22 rfl (lv_at hl 0 rfl) ?_
    refine va_get (D := D) (ci := 9) (v := .ref (hGrd 4)) (C := R_Grd) (T := T_Grd) (N := 9) (pc := 23) hx hb hts (fun w h => List.mem_cons_of_mem _ (in_Grd w h)) hown hK hP _ (fl_at 0 0 rfl rfl) rfl 6 (by decide) (hts _ (List.mem_cons_of_mem _ tw_358)) (fun _ h9 => h9) rfl d_Grd_takeCode_23 ?_
    refine lv_aload_n (pc := 26) hx hb d_Grd_takeCode_26 rfl (lv_at hl 0 rfl) ?_
    refine va_get (D := D) (ci := 9) (v := .int (Grd_codeCount sGrd_2)) (C := R_Grd) (T := T_Grd) (N := 9) (pc := 27) hx hb hts (fun w h => List.mem_cons_of_mem _ (in_Grd w h)) hown hK hP _ (fl_at 0 0 rfl rfl) rfl 5 (by decide) (hts _ (List.mem_cons_of_mem _ tw_356)) (fun _ h9 => h9) rfl d_Grd_takeCode_27 ?_
    refine lv_aload_n (pc := 30) hx hb d_Grd_takeCode_30 rfl (lv_at hl 0 rfl) ?_
    refine va_get (D := D) (ci := 9) (v := .ref (hGrd 1)) (C := R_Grd) (T := T_Grd) (N := 9) (pc := 31) hx hb hts (fun w h => List.mem_cons_of_mem _ (in_Grd w h)) hown hK hP _ (fl_at 0 0 rfl rfl) rfl 0 (by decide) (hts _ (List.mem_cons_of_mem _ tw_346)) (fun _ h9 => h9) rfl d_Grd_takeCode_31 ?_
    refine lv_iload_n (pc := 34) hx hb d_Grd_takeCode_34 rfl (lv_at hl 1 rfl) ?_
    obtain ⟨hi4, hf⟩ := o_gi_e hf
    refine va_lald (D := D) (pc := 35) hx hb hK hP _ 1 (fl_at 0 1 rfl rfl) rfl hi4 d_Grd_takeCode_35 ?_
    refine lv_lload_n (pc := 36) hx hb d_Grd_takeCode_36 rfl (lv_at hl 2 rfl) ?_
    refine lv_lsub (pc := 37) hx hb d_Grd_takeCode_37 ?_
    refine lv_iload (pc := 38) hx hb d_Grd_takeCode_38 (lv_at hl 3 rfl) ?_
    refine lv_lshr (pc := 40) hx hb d_Grd_takeCode_40 rfl ?_
    obtain ⟨hi5, hf⟩ := o_gi_e hf
    refine va_last (D := D) (pc := 41) hx hb hK hP hD hS _ 1 (fl_at 0 4 rfl rfl) rfl hi5 d_Grd_takeCode_41 (fun H locs hP hD hS => ?_)
    obtain ⟨sGrd_6, esGrd_6, hf⟩ := o_lt_e hf
    have hP : va_P D vwCl (fl [wGrd K hGrd sGrd_6]) H := by rw [esGrd_6]; exact fl_P 0 4 rfl (Nat.le_of_ble_eq_true rfl) rfl rfl hP
    have hD : va_D A (fl [wGrd K hGrd sGrd_6]) := by rw [esGrd_6]; exact fl_D 0 4 rfl (Nat.le_of_ble_eq_true rfl) rfl rfl hD
    refine lv_aload_n (pc := 42) hx hb d_Grd_takeCode_42 rfl (lv_at hl 0 rfl) ?_
    refine va_get (D := D) (ci := 9) (v := .ref (hGrd 2)) (C := R_Grd) (T := T_Grd) (N := 9) (pc := 43) hx hb hts (fun w h => List.mem_cons_of_mem _ (in_Grd w h)) hown hK hP _ (fl_at 0 0 rfl rfl) rfl 1 (by decide) (hts _ (List.mem_cons_of_mem _ tw_348)) (fun _ h9 => h9) rfl d_Grd_takeCode_43 ?_
    refine lv_iload_n (pc := 46) hx hb d_Grd_takeCode_46 rfl (lv_at hl 1 rfl) ?_
    refine lv_lload_n (pc := 47) hx hb d_Grd_takeCode_47 rfl (lv_at hl 2 rfl) ?_
    refine lv_aload_n (pc := 48) hx hb d_Grd_takeCode_48 rfl (lv_at hl 0 rfl) ?_
    refine va_get (D := D) (ci := 9) (v := .ref (hGrd 4)) (C := R_Grd) (T := T_Grd) (N := 9) (pc := 49) hx hb hts (fun w h => List.mem_cons_of_mem _ (in_Grd w h)) hown hK hP _ (fl_at 0 0 rfl rfl) rfl 6 (by decide) (hts _ (List.mem_cons_of_mem _ tw_358)) (fun _ h9 => h9) rfl d_Grd_takeCode_49 ?_
    refine lv_aload_n (pc := 52) hx hb d_Grd_takeCode_52 rfl (lv_at hl 0 rfl) ?_
    refine va_get (D := D) (ci := 9) (v := .int (Grd_codeCount sGrd_6)) (C := R_Grd) (T := T_Grd) (N := 9) (pc := 53) hx hb hts (fun w h => List.mem_cons_of_mem _ (in_Grd w h)) hown hK hP _ (fl_at 0 0 rfl rfl) rfl 5 (by decide) (hts _ (List.mem_cons_of_mem _ tw_356)) (fun _ h9 => h9) rfl d_Grd_takeCode_53 ?_
    obtain ⟨hi7, hf⟩ := o_gi_e hf
    refine va_lald (D := D) (pc := 56) hx hb hK hP _ 1 (fl_at 0 4 rfl rfl) rfl hi7 d_Grd_takeCode_56 ?_
    refine lv_iload (pc := 57) hx hb d_Grd_takeCode_57 (lv_at hl 3 rfl) ?_
    refine lv_lshl (pc := 59) hx hb d_Grd_takeCode_59 rfl ?_
    refine lv_ladd (pc := 60) hx hb d_Grd_takeCode_60 ?_
    obtain ⟨hi8, hf⟩ := o_gi_e hf
    refine va_last (D := D) (pc := 61) hx hb hK hP hD hS _ 1 (fl_at 0 2 rfl rfl) rfl hi8 d_Grd_takeCode_61 (fun H locs hP hD hS => ?_)
    obtain ⟨sGrd_9, esGrd_9, hf⟩ := o_lt_e hf
    have hP : va_P D vwCl (fl [wGrd K hGrd sGrd_9]) H := by rw [esGrd_9]; exact fl_P 0 2 rfl (Nat.le_of_ble_eq_true rfl) rfl rfl hP
    have hD : va_D A (fl [wGrd K hGrd sGrd_9]) := by rw [esGrd_9]; exact fl_D 0 2 rfl (Nat.le_of_ble_eq_true rfl) rfl rfl hD
    refine lv_aload_n (pc := 62) hx hb d_Grd_takeCode_62 rfl (lv_at hl 0 rfl) ?_
    refine lv_dup (pc := 63) hx hb d_Grd_takeCode_63 rfl ?_
    refine va_get (D := D) (ci := 9) (v := .int (Grd_codeCount sGrd_9)) (C := R_Grd) (T := T_Grd) (N := 9) (pc := 64) hx hb hts (fun w h => List.mem_cons_of_mem _ (in_Grd w h)) hown hK hP _ (fl_at 0 0 rfl rfl) rfl 5 (by decide) (hts _ (List.mem_cons_of_mem _ tw_356)) (fun _ h9 => h9) rfl d_Grd_takeCode_64 ?_
    refine lv_iconst (v := 1) (pc := 67) hx hb d_Grd_takeCode_67 (by decide) ?_
    refine lv_iadd (pc := 68) hx hb d_Grd_takeCode_68 ?_
    refine va_put (D := D) (ci := 9) (v := .int ((Grd_codeCount sGrd_9) + 1)) (ty := .int) (C := R_Grd) (T := T_Grd) (N := 9) (pc := 69) hx hb hts (fun w h => List.mem_cons_of_mem _ (in_Grd w h)) ty_Grd ty_Grd_ok nm_Grd hown hK hP hD hS _ (fl_at 0 0 rfl rfl) rfl 5 (by decide) (hts _ (List.mem_cons_of_mem _ tw_356)) (fun _ h9 => h9) rfl (by decide +kernel) rfl rfl (Nat.le_of_ble_eq_true rfl) d_Grd_takeCode_69 (fun H locs hP hD hS => ?_)
    obtain ⟨sGrd_10, esGrd_10, hf⟩ := o_lt_e hf
    have hP : va_P D vwCl (fl [wGrd K hGrd sGrd_10]) H := by rw [esGrd_10]; exact fl_P 0 0 rfl (Nat.le_of_ble_eq_true rfl) rfl rfl hP
    have hD : va_D A (fl [wGrd K hGrd sGrd_10]) := by rw [esGrd_10]; exact fl_D 0 0 rfl (Nat.le_of_ble_eq_true rfl) rfl rfl hD
    cases hf
    exact ret_v hx hb hr hlocks hK hP hS d_Grd_takeCode_72
def Grd_takeCodes_j59 (fu : Nat) (kc_12 : Int64 → Int64 → Int32 → Option (Int32 × S_Grd)) (ke_12 : Int64 → Int64 → Option (Int32 × S_Grd)) (x1_L12 : Int32) (sGrd_L12 : S_Grd) (x2_j59 : Int64) (x4_j59 : Int64) (x6_j59 : Int32) : Option (Int32 × S_Grd) := kc_12 x2_j59 x4_j59 (x6_j59 + 1)
def Grd_takeCodes_L12 (fu : Nat) (x1_L12 : Int32) (sGrd_L12 : S_Grd) (ke_12 : Int64 → Int64 → Option (Int32 × S_Grd)) : Nat → Int64 → Int64 → Int32 → Option (Int32 × S_Grd)
  | 0, _, _, _ => none
  | n + 1, x2_L12, x4_L12, x6_L12 => if 64 ≤ x6_L12 then ke_12 x2_L12 x4_L12 else o_gd (o_in x6_L12 64) (if (Grd_points sGrd_L12 (x6_L12 : Int32).toNatClampNeg) = ((-9000000000000000000)) then Grd_takeCodes_j59 fu (fun v0 v1 v2 => Grd_takeCodes_L12 fu x1_L12 sGrd_L12 ke_12 n v0 v1 v2) ke_12 x1_L12 sGrd_L12 x2_L12 x4_L12 x6_L12 else o_gd (o_in x6_L12 64) (o_lt (if (Grd_points sGrd_L12 (x6_L12 : Int32).toNatClampNeg) < x2_L12 then (Grd_points sGrd_L12 (x6_L12 : Int32).toNatClampNeg) else x2_L12) fun u3 => (o_gd (o_in x6_L12 64) (o_lt (if (Grd_points sGrd_L12 (x6_L12 : Int32).toNatClampNeg) < x4_L12 then x4_L12 else (Grd_points sGrd_L12 (x6_L12 : Int32).toNatClampNeg)) fun u5 => (Grd_takeCodes_j59 fu (fun v0 v1 v2 => Grd_takeCodes_L12 fu x1_L12 sGrd_L12 ke_12 n v0 v1 v2) ke_12 x1_L12 sGrd_L12 u3 u5 x6_L12)))))
def Grd_takeCodes_L88 (fu : Nat) (x2_L88 : Int64) (x6_L88 : Int32) : Nat → Int32 → S_Grd → Option (Int32 × S_Grd)
  | 0, _, _ => none
  | n + 1, x7_L88, sGrd_L88 => if 64 ≤ x7_L88 then some ((x6_L88, sGrd_L88)) else o_bd (Grd_inOrder x7_L88) fun q10 => (o_bd (Grd_takeCode q10 x2_L88 x6_L88 sGrd_L88) fun q11 => (Grd_takeCodes_L88 fu x2_L88 x6_L88 n (x7_L88 + 1) q11))
def Grd_takeCodes_j65 (fu : Nat) (x1_j65 : Int32) (x2_j65 : Int64) (x4_j65 : Int64) (sGrd_j65 : S_Grd) : Option (Int32 × S_Grd) := o_bd (X_bitLength fu (x4_j65 - x2_j65)) fun q8 => (o_lt (Grd_set_codeCount sGrd_j65 0) fun sGrd_9 => (Grd_takeCodes_L88 fu x2_j65 (if 0 < (q8 - x1_j65) then (q8 - x1_j65) else 0) fu 0 sGrd_9))
def Grd_takeCodes (fu : Nat) (a0 : Int32) (sGrd : S_Grd) : Option (Int32 × S_Grd) := Grd_takeCodes_L12 fu a0 sGrd (fun y2 y4 => Grd_takeCodes_j65 fu a0 y2 y4 sGrd) fu 2000000000 ((-2000000000)) 0
abbrev rm_Grd_takeCodes : Room := { frames := 1, cells := 0, slots := 0, locals := 24 }
set_option maxHeartbeats 4000000 in
set_option maxRecDepth 100000 in
theorem c_Grd_takeCodes (l : Launch) (D : va_G) (K : Nat → ClassId) (fu : Nat) (hGrd : Nat → Nat) (sGrd : S_Grd) (a0 : Int32) (r : Int32) (sGrd' : S_Grd) (hf : Grd_takeCodes fu a0 sGrd = some ((r, sGrd'))) : mi l D K y_Grd_takeCodes ws_Grd_takeCodes rm_Grd_takeCodes [.ref (hGrd 0), .int a0] (fl [wGrd K hGrd sGrd]) (fl [wGrd K hGrd sGrd']) r := by
  refine mi_of (cc := b_Grd_takeCodes) (maxL := 8) (own := "ObsMessages$Grid") (by decide) rfl rfl (Nat.le_of_ble_eq_true rfl) ?_
  intro p e s m below meth c A ls hC hP hD hS hl
  obtain ⟨hx, hb, hml, hown, hts, hr, hlocks, hK, hF, hA⟩ := hC
  have hP : va_P D vwCl (fl [wGrd K hGrd sGrd]) s.heap := hP
  have hl : lv_has ls 8 [(0, .ref (hGrd 0)), (1, .int a0)] := hl
  suffices hW : ∀ (H : Heap) (locs : List Loc), va_P D vwCl (fl [wGrd K hGrd sGrd]) H → va_S A s.heap H locs → W p l e rm_Grd_takeCodes s m ([.ref (hGrd 0), .int a0] : List Value).toArray below meth c H locs 0 0 (Qi below ([.ref (hGrd 0), .int a0] : List Value).toArray s D K A (fl [wGrd K hGrd sGrd']) r) (F0 m 0 ls []) from hW s.heap [] hP hS
  clear hP hS
  intro H locs hP hS
  have J65 : ∀ (x1_j65 : Int32) (x2_j65 : Int64) (x4_j65 : Int64) (sGrd_j65 : S_Grd) (H : Heap) (locs : List Loc) (ls : Array Slot), va_P D vwCl (fl [wGrd K hGrd sGrd_j65]) H → va_D A (fl [wGrd K hGrd sGrd_j65]) → va_S A s.heap H locs → lv_has ls 8 [(0, .ref (hGrd 0)), (1, .int x1_j65), (2, .long x2_j65), (4, .long x4_j65)] → Grd_takeCodes_j65 fu x1_j65 x2_j65 x4_j65 sGrd_j65 = some ((r, sGrd')) → W p l e rm_Grd_takeCodes s m ([.ref (hGrd 0), .int a0] : List Value).toArray below meth c H locs 0 0 (Qi below ([.ref (hGrd 0), .int a0] : List Value).toArray s D K A (fl [wGrd K hGrd sGrd']) r) (F0 m 65 ls []) := by
    intro x1_j65 x2_j65 x4_j65 sGrd_j65 H locs ls hP hD hS hl hf
    refine lv_iconst (v := 0) (pc := 65) hx hb d_Grd_takeCodes_65 (by decide) ?_
    refine lv_lload (pc := 66) hx hb d_Grd_takeCodes_66 (lv_at hl 3 rfl) ?_
    refine lv_lload_n (pc := 68) hx hb d_Grd_takeCodes_68 rfl (lv_at hl 2 rfl) ?_
    refine lv_lsub (pc := 69) hx hb d_Grd_takeCodes_69 ?_
    obtain ⟨q8, hq8, hf⟩ := o_bd_e hf
    refine fi_i (pc := 70) (va_runSN (As := [.long (x4_j65 - x2_j65)]) (rest := [.int 0]) ⟨hx, hb, hml, hown, hts⟩ ((c_X_bitLength l D K fu (x4_j65 - x2_j65) q8 hq8) _) (⟨va_cnB 1 hts (tb_in tw_951) rfl rfl rfl (hF.1 _ nw_9) (hts _ (List.mem_cons_of_mem _ tw_1)) (by decide +kernel) ⟨by decide, by decide⟩, (hts _ (List.mem_cons_of_mem _ tw_950)), trivial⟩) ⟨mPre_blind, (mPre_fl hK hF hA hP hD hS [] rfl rfl)⟩ rfl rfl hl.1 rfl (lv_room (Nat.le_of_ble_eq_true rfl)) d_Grd_takeCodes_70 ⟨Nat.zero_le _, Nat.zero_le _⟩) hA hP hD hS [] rfl rfl (fun H locs hP hD hS => ?_)
    have hP : va_P D vwCl (fl [wGrd K hGrd sGrd_j65]) H := hP
    have hD : va_D A (fl [wGrd K hGrd sGrd_j65]) := hD
    refine lv_iload_n (pc := 73) hx hb d_Grd_takeCodes_73 rfl (lv_at hl 1 rfl) ?_
    refine lv_isub (pc := 74) hx hb d_Grd_takeCodes_74 ?_
    refine va_mmax (pc := 75) hx hb (hml.trans hl.1.symm) hown (hts _ (List.mem_cons_of_mem _ tw_1066)) (hts _ (List.mem_cons_of_mem _ tw_1067)) (hts _ (List.mem_cons_of_mem _ tw_21)) (hts _ (List.mem_cons_of_mem _ tw_1068)) (by decide) (by decide) (Nat.zero_le _) (Nat.zero_le _) d_Grd_takeCodes_75 ?_
    refine lv_istore (lv' := [(6, .int (if 0 < (q8 - x1_j65) then (q8 - x1_j65) else 0)), (0, .ref (hGrd 0)), (1, .int x1_j65), (2, .long x2_j65), (4, .long x4_j65)]) (pc := 78) hx hb d_Grd_takeCodes_78 hl (by decide) rfl (fun ls hl => ?_)
    refine lv_aload_n (pc := 80) hx hb d_Grd_takeCodes_80 rfl (lv_at hl 1 rfl) ?_
    refine lv_iconst (v := 0) (pc := 81) hx hb d_Grd_takeCodes_81 (by decide) ?_
    refine va_put (D := D) (ci := 9) (v := .int 0) (ty := .int) (C := R_Grd) (T := T_Grd) (N := 9) (pc := 82) hx hb hts (fun w h => List.mem_cons_of_mem _ (in_Grd w h)) ty_Grd ty_Grd_ok nm_Grd hown hK hP hD hS _ (fl_at 0 0 rfl rfl) rfl 5 (by decide) (hts _ (List.mem_cons_of_mem _ tw_356)) (fun _ h9 => h9) rfl (by decide +kernel) rfl rfl (Nat.le_of_ble_eq_true rfl) d_Grd_takeCodes_82 (fun H locs hP hD hS => ?_)
    obtain ⟨sGrd_9, esGrd_9, hf⟩ := o_lt_e hf
    have hP : va_P D vwCl (fl [wGrd K hGrd sGrd_9]) H := by rw [esGrd_9]; exact fl_P 0 0 rfl (Nat.le_of_ble_eq_true rfl) rfl rfl hP
    have hD : va_D A (fl [wGrd K hGrd sGrd_9]) := by rw [esGrd_9]; exact fl_D 0 0 rfl (Nat.le_of_ble_eq_true rfl) rfl rfl hD
    refine lv_iconst (v := 0) (pc := 85) hx hb d_Grd_takeCodes_85 (by decide) ?_
    refine lv_istore (lv' := [(7, .int 0), (6, .int (if 0 < (q8 - x1_j65) then (q8 - x1_j65) else 0)), (0, .ref (hGrd 0)), (1, .int x1_j65), (2, .long x2_j65), (4, .long x4_j65)]) (pc := 86) hx hb d_Grd_takeCodes_86 hl (by decide) rfl (fun ls hl => ?_)
    have L88 : ∀ (x2_L88 : Int64) (x6_L88 : Int32) (n : Nat) (x7_L88 : Int32) (sGrd_L88 : S_Grd) (H : Heap) (locs : List Loc) (ls : Array Slot), va_P D vwCl (fl [wGrd K hGrd sGrd_L88]) H → va_D A (fl [wGrd K hGrd sGrd_L88]) → va_S A s.heap H locs → lv_has ls 8 [(0, .ref (hGrd 0)), (2, .long x2_L88), (6, .int x6_L88), (7, .int x7_L88)] → Grd_takeCodes_L88 fu x2_L88 x6_L88 n x7_L88 sGrd_L88 = some ((r, sGrd')) → W p l e rm_Grd_takeCodes s m ([.ref (hGrd 0), .int a0] : List Value).toArray below meth c H locs 0 0 (Qi below ([.ref (hGrd 0), .int a0] : List Value).toArray s D K A (fl [wGrd K hGrd sGrd']) r) (F0 m 88 ls []) := by
      intro x2_L88 x6_L88 n
      induction n with
      | zero =>
        intro x7_L88 sGrd_L88 H locs ls hP hD hS hl hf
        exact absurd hf (fun h => nomatch h)
      | succ n_88 ih_88 =>
        intro x7_L88 sGrd_L88 H locs ls hP hD hS hl hf
        refine lv_iload (pc := 88) hx hb d_Grd_takeCodes_88 (lv_at hl 3 rfl) ?_
        refine lv_bipush (v := 64) (pc := 90) hx hb d_Grd_takeCodes_90 (by decide) ?_
        refine lv_icmp_ge (tgt := 113) (pc := 92) hx hb d_Grd_takeCodes_92 (by decide) (fun c12 => ?_) (fun c12 => ?_)
        · replace hf := o_t c12 hf
          refine lv_iload (pc := 113) hx hb d_Grd_takeCodes_113 (lv_at hl 2 rfl) ?_
          cases hf
          exact ret_i hx hb hr hlocks hK hP hS d_Grd_takeCodes_115
        · replace hf := o_f c12 hf
          refine lv_aload_n (pc := 95) hx hb d_Grd_takeCodes_95 rfl (lv_at hl 0 rfl) ?_
          refine lv_iload (pc := 96) hx hb d_Grd_takeCodes_96 (lv_at hl 3 rfl) ?_
          obtain ⟨q10, hq10, hf⟩ := o_bd_e hf
          refine fi_i (pc := 98) (va_runS (As := [.int x7_L88]) (rest := [.ref (hGrd 0)]) ⟨hx, hb, hml, hown, hts⟩ ((c_Grd_inOrder l D K x7_L88 q10 hq10) _) (cwS 1 hts (gS tw_1069 tw_1070 tw_10 tw_1071) rfl rfl rfl (by decide +kernel) ⟨by decide, by decide⟩) ⟨mPre_blind, (mPre_fl hK hF hA hP hD hS [] rfl rfl)⟩ rfl rfl hl.1 rfl (lv_room (Nat.le_of_ble_eq_true rfl)) d_Grd_takeCodes_98 ⟨Nat.zero_le _, Nat.zero_le _⟩) hA hP hD hS [] rfl rfl (fun H locs hP hD hS => ?_)
          have hP : va_P D vwCl (fl [wGrd K hGrd sGrd_L88]) H := hP
          have hD : va_D A (fl [wGrd K hGrd sGrd_L88]) := hD
          refine lv_lload_n (pc := 101) hx hb d_Grd_takeCodes_101 rfl (lv_at hl 1 rfl) ?_
          refine lv_iload (pc := 102) hx hb d_Grd_takeCodes_102 (lv_at hl 2 rfl) ?_
          obtain ⟨q11, hq11, hf⟩ := o_bd_e hf
          refine fi_v (pc := 104) (va_runV (As := [.int q10, .long x2_L88, .int x6_L88]) (rest := []) ⟨hx, hb, hml, hown, hts⟩ ((c_Grd_takeCode l D K hGrd sGrd_L88 q10 x2_L88 x6_L88 q11 hq11) _) (cwV 3 hts (gV tw_1072 tw_1074 tp_36 tw_10 tw_1075) rfl rfl rfl (by decide +kernel) ⟨by decide, by decide⟩) ⟨mPre_blind, va_recv hK hP (ci := 9) rfl (fl_at 0 0 rfl rfl), (mPre_fl hK hF hA hP hD hS [0] rfl rfl)⟩ rfl rfl hl.1 rfl (lv_room (Nat.le_of_ble_eq_true rfl)) d_Grd_takeCodes_104 ⟨Nat.zero_le _, Nat.zero_le _⟩) hA hP hD hS [0] rfl rfl (fun H locs hP hD hS => ?_)
          have hP : va_P D vwCl (fl [wGrd K hGrd q11]) H := hP
          have hD : va_D A (fl [wGrd K hGrd q11]) := hD
          refine lv_iinc (v := x7_L88 + 1) (lv' := [(7, .int (x7_L88 + 1)), (0, .ref (hGrd 0)), (2, .long x2_L88), (6, .int x6_L88)]) (pc := 107) hx hb d_Grd_takeCodes_107 hl (k := 3) rfl rfl (by decide) rfl (fun ls hl => ?_)
          refine lv_goto (tgt := 88) (pc := 110) hx hb d_Grd_takeCodes_110 (by decide) ?_
          exact ih_88 (x7_L88 + 1) q11 H locs ls hP hD hS (lv_sub hl [1, 2, 3, 0] rfl) hf
    exact L88 x2_j65 (if 0 < (q8 - x1_j65) then (q8 - x1_j65) else 0) fu 0 sGrd_9 H locs ls hP hD hS (lv_sub hl [2, 4, 1, 0] rfl) hf
  refine lv_ldc2 (pc := 0) hx hb hown (hts _ (List.mem_cons_of_mem _ tw_1061)) d_Grd_takeCodes_0 ?_
  refine lv_lstore_n (lv' := [(2, .long 2000000000), (0, .ref (hGrd 0)), (1, .int a0)]) (pc := 3) hx hb d_Grd_takeCodes_3 rfl hl (by decide) rfl (fun ls hl => ?_)
  refine lv_ldc2 (pc := 4) hx hb hown (hts _ (List.mem_cons_of_mem _ tw_1062)) d_Grd_takeCodes_4 ?_
  refine lv_lstore (lv' := [(4, .long ((-2000000000))), (2, .long 2000000000), (0, .ref (hGrd 0)), (1, .int a0)]) (pc := 7) hx hb d_Grd_takeCodes_7 hl (by decide) rfl (fun ls hl => ?_)
  refine lv_iconst (v := 0) (pc := 9) hx hb d_Grd_takeCodes_9 (by decide) ?_
  refine lv_istore (lv' := [(6, .int 0), (4, .long ((-2000000000))), (2, .long 2000000000), (0, .ref (hGrd 0)), (1, .int a0)]) (pc := 10) hx hb d_Grd_takeCodes_10 hl (by decide) rfl (fun ls hl => ?_)
  have L12 : ∀ (x1_L12 : Int32) (sGrd_L12 : S_Grd) (n : Nat) (x2_L12 : Int64) (x4_L12 : Int64) (x6_L12 : Int32) (H : Heap) (locs : List Loc) (ls : Array Slot), va_P D vwCl (fl [wGrd K hGrd sGrd_L12]) H → va_D A (fl [wGrd K hGrd sGrd_L12]) → va_S A s.heap H locs → lv_has ls 8 [(0, .ref (hGrd 0)), (1, .int x1_L12), (2, .long x2_L12), (4, .long x4_L12), (6, .int x6_L12)] → Grd_takeCodes_L12 fu x1_L12 sGrd_L12 (fun y2 y4 => Grd_takeCodes_j65 fu x1_L12 y2 y4 sGrd_L12) n x2_L12 x4_L12 x6_L12 = some ((r, sGrd')) → W p l e rm_Grd_takeCodes s m ([.ref (hGrd 0), .int a0] : List Value).toArray below meth c H locs 0 0 (Qi below ([.ref (hGrd 0), .int a0] : List Value).toArray s D K A (fl [wGrd K hGrd sGrd']) r) (F0 m 12 ls []) := by
    intro x1_L12 sGrd_L12 n
    induction n with
    | zero =>
      intro x2_L12 x4_L12 x6_L12 H locs ls hP hD hS hl hf
      exact absurd hf (fun h => nomatch h)
    | succ n_12 ih_12 =>
      intro x2_L12 x4_L12 x6_L12 H locs ls hP hD hS hl hf
      have J59 : ∀ (x2_j59 : Int64) (x4_j59 : Int64) (x6_j59 : Int32) (H : Heap) (locs : List Loc) (ls : Array Slot), va_P D vwCl (fl [wGrd K hGrd sGrd_L12]) H → va_D A (fl [wGrd K hGrd sGrd_L12]) → va_S A s.heap H locs → lv_has ls 8 [(0, .ref (hGrd 0)), (1, .int x1_L12), (2, .long x2_j59), (4, .long x4_j59), (6, .int x6_j59)] → Grd_takeCodes_j59 fu (fun v0 v1 v2 => Grd_takeCodes_L12 fu x1_L12 sGrd_L12 (fun y2 y4 => Grd_takeCodes_j65 fu x1_L12 y2 y4 sGrd_L12) n_12 v0 v1 v2) (fun y2 y4 => Grd_takeCodes_j65 fu x1_L12 y2 y4 sGrd_L12) x1_L12 sGrd_L12 x2_j59 x4_j59 x6_j59 = some ((r, sGrd')) → W p l e rm_Grd_takeCodes s m ([.ref (hGrd 0), .int a0] : List Value).toArray below meth c H locs 0 0 (Qi below ([.ref (hGrd 0), .int a0] : List Value).toArray s D K A (fl [wGrd K hGrd sGrd']) r) (F0 m 59 ls []) := by
        intro x2_j59 x4_j59 x6_j59 H locs ls hP hD hS hl hf
        refine lv_iinc (v := x6_j59 + 1) (lv' := [(6, .int (x6_j59 + 1)), (0, .ref (hGrd 0)), (1, .int x1_L12), (2, .long x2_j59), (4, .long x4_j59)]) (pc := 59) hx hb d_Grd_takeCodes_59 hl (k := 4) rfl rfl (by decide) rfl (fun ls hl => ?_)
        refine lv_goto (tgt := 12) (pc := 62) hx hb d_Grd_takeCodes_62 (by decide) ?_
        exact ih_12 x2_j59 x4_j59 (x6_j59 + 1) H locs ls hP hD hS (lv_sub hl [1, 2, 3, 4, 0] rfl) hf
      refine lv_iload (pc := 12) hx hb d_Grd_takeCodes_12 (lv_at hl 4 rfl) ?_
      refine lv_bipush (v := 64) (pc := 14) hx hb d_Grd_takeCodes_14 (by decide) ?_
      refine lv_icmp_ge (tgt := 65) (pc := 16) hx hb d_Grd_takeCodes_16 (by decide) (fun c7 => ?_) (fun c7 => ?_)
      · replace hf := o_t c7 hf
        exact J65 x1_L12 x2_L12 x4_L12 sGrd_L12 H locs ls hP hD hS (lv_sub hl [0, 1, 2, 3] rfl) hf
      · replace hf := o_f c7 hf
        refine lv_aload_n (pc := 19) hx hb d_Grd_takeCodes_19 rfl (lv_at hl 0 rfl) ?_
        refine va_get (D := D) (ci := 9) (v := .ref (hGrd 1)) (C := R_Grd) (T := T_Grd) (N := 9) (pc := 20) hx hb hts (fun w h => List.mem_cons_of_mem _ (in_Grd w h)) hown hK hP _ (fl_at 0 0 rfl rfl) rfl 0 (by decide) (hts _ (List.mem_cons_of_mem _ tw_346)) (fun _ h9 => h9) rfl d_Grd_takeCodes_20 ?_
        refine lv_iload (pc := 23) hx hb d_Grd_takeCodes_23 (lv_at hl 4 rfl) ?_
        obtain ⟨hi1, hf⟩ := o_gi_e hf
        refine va_lald (D := D) (pc := 25) hx hb hK hP _ 1 (fl_at 0 1 rfl rfl) rfl hi1 d_Grd_takeCodes_25 ?_
        refine lv_ldc2 (pc := 26) hx hb hown (hts _ (List.mem_cons_of_mem _ tw_342)) d_Grd_takeCodes_26 ?_
        refine lc_eq (tgt := 59) (pc := 29) hx hb d_Grd_takeCodes_29 d_Grd_takeCodes_30 (by decide) (fun c6 => ?_) (fun c6 => ?_)
        · replace hf := o_t c6 hf
          exact J59 x2_L12 x4_L12 x6_L12 H locs ls hP hD hS (lv_sub hl [0, 1, 2, 3, 4] rfl) hf
        · replace hf := o_f c6 hf
          refine lv_lload_n (pc := 33) hx hb d_Grd_takeCodes_33 rfl (lv_at hl 2 rfl) ?_
          refine lv_aload_n (pc := 34) hx hb d_Grd_takeCodes_34 rfl (lv_at hl 0 rfl) ?_
          refine va_get (D := D) (ci := 9) (v := .ref (hGrd 1)) (C := R_Grd) (T := T_Grd) (N := 9) (pc := 35) hx hb hts (fun w h => List.mem_cons_of_mem _ (in_Grd w h)) hown hK hP _ (fl_at 0 0 rfl rfl) rfl 0 (by decide) (hts _ (List.mem_cons_of_mem _ tw_346)) (fun _ h9 => h9) rfl d_Grd_takeCodes_35 ?_
          refine lv_iload (pc := 38) hx hb d_Grd_takeCodes_38 (lv_at hl 4 rfl) ?_
          obtain ⟨hi2, hf⟩ := o_gi_e hf
          refine va_lald (D := D) (pc := 40) hx hb hK hP _ 1 (fl_at 0 1 rfl rfl) rfl hi2 d_Grd_takeCodes_40 ?_
          refine va_mmin_long (pc := 41) hx hb (hml.trans hl.1.symm) hown (hts _ (List.mem_cons_of_mem _ tw_1063)) (hts _ (List.mem_cons_of_mem _ tw_941)) (hts _ (List.mem_cons_of_mem _ tw_21)) (hts _ (List.mem_cons_of_mem _ tw_942)) (by decide) (by decide) (Nat.zero_le _) (Nat.zero_le _) d_Grd_takeCodes_41 ?_
          refine lv_topl (fun u3 eu3 => ?_)
          replace hf := o_lt_a eu3 hf
          refine lv_lstore_n (lv' := [(2, .long u3), (0, .ref (hGrd 0)), (1, .int x1_L12), (4, .long x4_L12), (6, .int x6_L12)]) (pc := 44) hx hb d_Grd_takeCodes_44 rfl hl (by decide) rfl (fun ls hl => ?_)
          refine lv_lload (pc := 45) hx hb d_Grd_takeCodes_45 (lv_at hl 3 rfl) ?_
          refine lv_aload_n (pc := 47) hx hb d_Grd_takeCodes_47 rfl (lv_at hl 1 rfl) ?_
          refine va_get (D := D) (ci := 9) (v := .ref (hGrd 1)) (C := R_Grd) (T := T_Grd) (N := 9) (pc := 48) hx hb hts (fun w h => List.mem_cons_of_mem _ (in_Grd w h)) hown hK hP _ (fl_at 0 0 rfl rfl) rfl 0 (by decide) (hts _ (List.mem_cons_of_mem _ tw_346)) (fun _ h9 => h9) rfl d_Grd_takeCodes_48 ?_
          refine lv_iload (pc := 51) hx hb d_Grd_takeCodes_51 (lv_at hl 4 rfl) ?_
          obtain ⟨hi4, hf⟩ := o_gi_e hf
          refine va_lald (D := D) (pc := 53) hx hb hK hP _ 1 (fl_at 0 1 rfl rfl) rfl hi4 d_Grd_takeCodes_53 ?_
          refine va_mmax_long (pc := 54) hx hb (hml.trans hl.1.symm) hown (hts _ (List.mem_cons_of_mem _ tw_1064)) (hts _ (List.mem_cons_of_mem _ tw_944)) (hts _ (List.mem_cons_of_mem _ tw_21)) (hts _ (List.mem_cons_of_mem _ tw_945)) (by decide) (by decide) (Nat.zero_le _) (Nat.zero_le _) d_Grd_takeCodes_54 ?_
          refine lv_topl (fun u5 eu5 => ?_)
          replace hf := o_lt_a eu5 hf
          refine lv_lstore (lv' := [(4, .long u5), (2, .long u3), (0, .ref (hGrd 0)), (1, .int x1_L12), (6, .int x6_L12)]) (pc := 57) hx hb d_Grd_takeCodes_57 hl (by decide) rfl (fun ls hl => ?_)
          exact J59 u3 u5 x6_L12 H locs ls hP hD hS (lv_sub hl [2, 3, 1, 0, 4] rfl) hf
  exact L12 a0 sGrd fu 2000000000 ((-2000000000)) 0 H locs ls hP hD hS (lv_sub hl [3, 4, 2, 1, 0] rfl) hf
def Grd_cutFrom_j118 (fu : Nat) (kc_28 : Int64 → Int64 → Int32 → S_Grd → Option (S_Grd)) (x1_L28 : Int32) (x2_L28 : Int32) (x3_j118 : Int64) (x5_j118 : Int64) (x7_j118 : Int32) (sGrd_j118 : S_Grd) : Option (S_Grd) := kc_28 x3_j118 x5_j118 (x7_j118 + 1) sGrd_j118
def Grd_cutFrom_L28 (fu : Nat) (x1_L28 : Int32) (x2_L28 : Int32) : Nat → Int64 → Int64 → Int32 → S_Grd → Option (S_Grd)
  | 0, _, _, _, _ => none
  | n + 1, x3_L28, x5_L28, x7_L28, sGrd_L28 => if (Grd_codeCount sGrd_L28) < x7_L28 then some sGrd_L28 else o_gd (o_in (x7_L28 - 1) 64) (o_lt (if (Grd_codes sGrd_L28 (x7_L28 - 1 : Int32).toNatClampNeg) < x3_L28 then (Grd_codes sGrd_L28 (x7_L28 - 1 : Int32).toNatClampNeg) else x3_L28) fun u6 => (o_gd (o_in (x7_L28 - 1) 64) (o_lt (if (Grd_codes sGrd_L28 (x7_L28 - 1 : Int32).toNatClampNeg) < x5_L28 then x5_L28 else (Grd_codes sGrd_L28 (x7_L28 - 1 : Int32).toNatClampNeg)) fun u8 => (o_bd (X_bitLength fu (u8 - u6)) fun q9 => (o_gd (o_in x7_L28 65) (o_lt ((x2_L28 + ((x7_L28 - x1_L28) * q9)) + (Grd_cheapest sGrd_L28 (x7_L28 : Int32).toNatClampNeg)) fun u11 => (o_gd (o_in x1_L28 65) (if (Grd_cheapest sGrd_L28 (x1_L28 : Int32).toNatClampNeg) < u11 then Grd_cutFrom_j118 fu (fun v0 v1 v2 v3 => Grd_cutFrom_L28 fu x1_L28 x2_L28 n v0 v1 v2 v3) x1_L28 x2_L28 u6 u8 x7_L28 sGrd_L28 else o_gd (o_in x1_L28 65) (o_lt (Grd_put_cheapest sGrd_L28 (x1_L28 : Int32).toNatClampNeg u11) fun sGrd_14 => (o_gd (o_in x1_L28 65) (o_lt (Grd_put_firstEnds sGrd_14 (x1_L28 : Int32).toNatClampNeg x7_L28) fun sGrd_16 => (Grd_cutFrom_j118 fu (fun v0 v1 v2 v3 => Grd_cutFrom_L28 fu x1_L28 x2_L28 n v0 v1 v2 v3) x1_L28 x2_L28 u6 u8 x7_L28 sGrd_16))))))))))))
def Grd_cutFrom (fu : Nat) (a0 : Int32) (a1 : Int32) (sGrd : S_Grd) : Option (S_Grd) := o_gd (o_in a0 64) (o_gd (o_in a0 64) (o_gd (o_in a0 65) (o_lt (Grd_put_cheapest sGrd (a0 : Int32).toNatClampNeg 1000000) fun sGrd_4 => (Grd_cutFrom_L28 fu a0 a1 fu (Grd_codes sGrd (a0 : Int32).toNatClampNeg) (Grd_codes sGrd (a0 : Int32).toNatClampNeg) (a0 + 1) sGrd_4))))
abbrev rm_Grd_cutFrom : Room := { frames := 1, cells := 0, slots := 0, locals := 23 }
set_option maxHeartbeats 4000000 in
set_option maxRecDepth 100000 in
theorem c_Grd_cutFrom (l : Launch) (D : va_G) (K : Nat → ClassId) (fu : Nat) (hGrd : Nat → Nat) (sGrd : S_Grd) (a0 : Int32) (a1 : Int32) (sGrd' : S_Grd) (hf : Grd_cutFrom fu a0 a1 sGrd = some sGrd') : mv l D K y_Grd_cutFrom ws_Grd_cutFrom rm_Grd_cutFrom [.ref (hGrd 0), .int a0, .int a1] (fl [wGrd K hGrd sGrd]) (fl [wGrd K hGrd sGrd']) := by
  refine mv_of (cc := b_Grd_cutFrom) (maxL := 9) (own := "ObsMessages$Grid") (by decide) rfl rfl (Nat.le_of_ble_eq_true rfl) ?_
  intro p e s m below meth c A ls hC hP hD hS hl
  obtain ⟨hx, hb, hml, hown, hts, hr, hlocks, hK, hF, hA⟩ := hC
  have hP : va_P D vwCl (fl [wGrd K hGrd sGrd]) s.heap := hP
  have hl : lv_has ls 9 [(0, .ref (hGrd 0)), (1, .int a0), (2, .int a1)] := hl
  suffices hW : ∀ (H : Heap) (locs : List Loc), va_P D vwCl (fl [wGrd K hGrd sGrd]) H → va_S A s.heap H locs → W p l e rm_Grd_cutFrom s m ([.ref (hGrd 0), .int a0, .int a1] : List Value).toArray below meth c H locs 0 0 (Qv below ([.ref (hGrd 0), .int a0, .int a1] : List Value).toArray s D K A (fl [wGrd K hGrd sGrd'])) (F0 m 0 ls []) from hW s.heap [] hP hS
  clear hP hS
  intro H locs hP hS
  refine lv_aload_n (pc := 0) hx hb d_Grd_cutFrom_0 rfl (lv_at hl 0 rfl) ?_
  refine va_get (D := D) (ci := 9) (v := .ref (hGrd 4)) (C := R_Grd) (T := T_Grd) (N := 9) (pc := 1) hx hb hts (fun w h => List.mem_cons_of_mem _ (in_Grd w h)) hown hK hP _ (fl_at 0 0 rfl rfl) rfl 6 (by decide) (hts _ (List.mem_cons_of_mem _ tw_358)) (fun _ h9 => h9) rfl d_Grd_cutFrom_1 ?_
  refine lv_iload_n (pc := 4) hx hb d_Grd_cutFrom_4 rfl (lv_at hl 1 rfl) ?_
  obtain ⟨hi1, hf⟩ := o_gi_e hf
  refine va_lald (D := D) (pc := 5) hx hb hK hP _ 1 (fl_at 0 4 rfl rfl) rfl hi1 d_Grd_cutFrom_5 ?_
  refine lv_lstore_n (lv' := [(3, .long (Grd_codes sGrd (a0 : Int32).toNatClampNeg)), (0, .ref (hGrd 0)), (1, .int a0), (2, .int a1)]) (pc := 6) hx hb d_Grd_cutFrom_6 rfl hl (by decide) rfl (fun ls hl => ?_)
  refine lv_aload_n (pc := 7) hx hb d_Grd_cutFrom_7 rfl (lv_at hl 1 rfl) ?_
  refine va_get (D := D) (ci := 9) (v := .ref (hGrd 4)) (C := R_Grd) (T := T_Grd) (N := 9) (pc := 8) hx hb hts (fun w h => List.mem_cons_of_mem _ (in_Grd w h)) hown hK hP _ (fl_at 0 0 rfl rfl) rfl 6 (by decide) (hts _ (List.mem_cons_of_mem _ tw_358)) (fun _ h9 => h9) rfl d_Grd_cutFrom_8 ?_
  refine lv_iload_n (pc := 11) hx hb d_Grd_cutFrom_11 rfl (lv_at hl 2 rfl) ?_
  obtain ⟨hi2, hf⟩ := o_gi_e hf
  refine va_lald (D := D) (pc := 12) hx hb hK hP _ 1 (fl_at 0 4 rfl rfl) rfl hi2 d_Grd_cutFrom_12 ?_
  refine lv_lstore (lv' := [(5, .long (Grd_codes sGrd (a0 : Int32).toNatClampNeg)), (3, .long (Grd_codes sGrd (a0 : Int32).toNatClampNeg)), (0, .ref (hGrd 0)), (1, .int a0), (2, .int a1)]) (pc := 13) hx hb d_Grd_cutFrom_13 hl (by decide) rfl (fun ls hl => ?_)
  refine lv_aload_n (pc := 15) hx hb d_Grd_cutFrom_15 rfl (lv_at hl 2 rfl) ?_
  refine va_get (D := D) (ci := 9) (v := .ref (hGrd 5)) (C := R_Grd) (T := T_Grd) (N := 9) (pc := 16) hx hb hts (fun w h => List.mem_cons_of_mem _ (in_Grd w h)) hown hK hP _ (fl_at 0 0 rfl rfl) rfl 7 (by decide) (hts _ (List.mem_cons_of_mem _ tw_359)) (fun _ h9 => h9) rfl d_Grd_cutFrom_16 ?_
  refine lv_iload_n (pc := 19) hx hb d_Grd_cutFrom_19 rfl (lv_at hl 3 rfl) ?_
  refine lv_ldc (pc := 20) hx hb hown (hts _ (List.mem_cons_of_mem _ tw_1084)) d_Grd_cutFrom_20 ?_
  obtain ⟨hi3, hf⟩ := o_gi_e hf
  refine va_iast (D := D) (pc := 22) hx hb hK hP hD hS _ 0 (fl_at 0 5 rfl rfl) rfl hi3 d_Grd_cutFrom_22 (fun H locs hP hD hS => ?_)
  obtain ⟨sGrd_4, esGrd_4, hf⟩ := o_lt_e hf
  have hP : va_P D vwCl (fl [wGrd K hGrd sGrd_4]) H := by rw [esGrd_4]; exact fl_P 0 5 rfl (Nat.le_of_ble_eq_true rfl) rfl rfl hP
  have hD : va_D A (fl [wGrd K hGrd sGrd_4]) := by rw [esGrd_4]; exact fl_D 0 5 rfl (Nat.le_of_ble_eq_true rfl) rfl rfl hD
  refine lv_iload_n (pc := 23) hx hb d_Grd_cutFrom_23 rfl (lv_at hl 3 rfl) ?_
  refine lv_iconst (v := 1) (pc := 24) hx hb d_Grd_cutFrom_24 (by decide) ?_
  refine lv_iadd (pc := 25) hx hb d_Grd_cutFrom_25 ?_
  refine lv_istore (lv' := [(7, .int (a0 + 1)), (5, .long (Grd_codes sGrd (a0 : Int32).toNatClampNeg)), (3, .long (Grd_codes sGrd (a0 : Int32).toNatClampNeg)), (0, .ref (hGrd 0)), (1, .int a0), (2, .int a1)]) (pc := 26) hx hb d_Grd_cutFrom_26 hl (by decide) rfl (fun ls hl => ?_)
  have L28 : ∀ (x1_L28 : Int32) (x2_L28 : Int32) (n : Nat) (x3_L28 : Int64) (x5_L28 : Int64) (x7_L28 : Int32) (sGrd_L28 : S_Grd) (H : Heap) (locs : List Loc) (ls : Array Slot), va_P D vwCl (fl [wGrd K hGrd sGrd_L28]) H → va_D A (fl [wGrd K hGrd sGrd_L28]) → va_S A s.heap H locs → lv_has ls 9 [(0, .ref (hGrd 0)), (1, .int x1_L28), (2, .int x2_L28), (3, .long x3_L28), (5, .long x5_L28), (7, .int x7_L28)] → Grd_cutFrom_L28 fu x1_L28 x2_L28 n x3_L28 x5_L28 x7_L28 sGrd_L28 = some sGrd' → W p l e rm_Grd_cutFrom s m ([.ref (hGrd 0), .int a0, .int a1] : List Value).toArray below meth c H locs 0 0 (Qv below ([.ref (hGrd 0), .int a0, .int a1] : List Value).toArray s D K A (fl [wGrd K hGrd sGrd'])) (F0 m 28 ls []) := by
    intro x1_L28 x2_L28 n
    induction n with
    | zero =>
      intro x3_L28 x5_L28 x7_L28 sGrd_L28 H locs ls hP hD hS hl hf
      exact absurd hf (fun h => nomatch h)
    | succ n_28 ih_28 =>
      intro x3_L28 x5_L28 x7_L28 sGrd_L28 H locs ls hP hD hS hl hf
      have J118 : ∀ (x3_j118 : Int64) (x5_j118 : Int64) (x7_j118 : Int32) (sGrd_j118 : S_Grd) (H : Heap) (locs : List Loc) (ls : Array Slot), va_P D vwCl (fl [wGrd K hGrd sGrd_j118]) H → va_D A (fl [wGrd K hGrd sGrd_j118]) → va_S A s.heap H locs → lv_has ls 9 [(0, .ref (hGrd 0)), (1, .int x1_L28), (2, .int x2_L28), (3, .long x3_j118), (5, .long x5_j118), (7, .int x7_j118)] → Grd_cutFrom_j118 fu (fun v0 v1 v2 v3 => Grd_cutFrom_L28 fu x1_L28 x2_L28 n_28 v0 v1 v2 v3) x1_L28 x2_L28 x3_j118 x5_j118 x7_j118 sGrd_j118 = some sGrd' → W p l e rm_Grd_cutFrom s m ([.ref (hGrd 0), .int a0, .int a1] : List Value).toArray below meth c H locs 0 0 (Qv below ([.ref (hGrd 0), .int a0, .int a1] : List Value).toArray s D K A (fl [wGrd K hGrd sGrd'])) (F0 m 118 ls []) := by
        intro x3_j118 x5_j118 x7_j118 sGrd_j118 H locs ls hP hD hS hl hf
        refine lv_iinc (v := x7_j118 + 1) (lv' := [(7, .int (x7_j118 + 1)), (0, .ref (hGrd 0)), (1, .int x1_L28), (2, .int x2_L28), (3, .long x3_j118), (5, .long x5_j118)]) (pc := 118) hx hb d_Grd_cutFrom_118 hl (k := 5) rfl rfl (by decide) rfl (fun ls hl => ?_)
        refine lv_goto (tgt := 28) (pc := 121) hx hb d_Grd_cutFrom_121 (by decide) ?_
        exact ih_28 x3_j118 x5_j118 (x7_j118 + 1) sGrd_j118 H locs ls hP hD hS (lv_sub hl [1, 2, 3, 4, 5, 0] rfl) hf
      refine lv_iload (pc := 28) hx hb d_Grd_cutFrom_28 (lv_at hl 5 rfl) ?_
      refine lv_aload_n (pc := 30) hx hb d_Grd_cutFrom_30 rfl (lv_at hl 0 rfl) ?_
      refine va_get (D := D) (ci := 9) (v := .int (Grd_codeCount sGrd_L28)) (C := R_Grd) (T := T_Grd) (N := 9) (pc := 31) hx hb hts (fun w h => List.mem_cons_of_mem _ (in_Grd w h)) hown hK hP _ (fl_at 0 0 rfl rfl) rfl 5 (by decide) (hts _ (List.mem_cons_of_mem _ tw_356)) (fun _ h9 => h9) rfl d_Grd_cutFrom_31 ?_
      refine lv_icmp_gt (tgt := 124) (pc := 34) hx hb d_Grd_cutFrom_34 (by decide) (fun c18 => ?_) (fun c18 => ?_)
      · replace hf := o_t c18 hf
        cases hf
        exact ret_v hx hb hr hlocks hK hP hS d_Grd_cutFrom_124
      · replace hf := o_f c18 hf
        refine lv_lload_n (pc := 37) hx hb d_Grd_cutFrom_37 rfl (lv_at hl 3 rfl) ?_
        refine lv_aload_n (pc := 38) hx hb d_Grd_cutFrom_38 rfl (lv_at hl 0 rfl) ?_
        refine va_get (D := D) (ci := 9) (v := .ref (hGrd 4)) (C := R_Grd) (T := T_Grd) (N := 9) (pc := 39) hx hb hts (fun w h => List.mem_cons_of_mem _ (in_Grd w h)) hown hK hP _ (fl_at 0 0 rfl rfl) rfl 6 (by decide) (hts _ (List.mem_cons_of_mem _ tw_358)) (fun _ h9 => h9) rfl d_Grd_cutFrom_39 ?_
        refine lv_iload (pc := 42) hx hb d_Grd_cutFrom_42 (lv_at hl 5 rfl) ?_
        refine lv_iconst (v := 1) (pc := 44) hx hb d_Grd_cutFrom_44 (by decide) ?_
        refine lv_isub (pc := 45) hx hb d_Grd_cutFrom_45 ?_
        obtain ⟨hi5, hf⟩ := o_gi_e hf
        refine va_lald (D := D) (pc := 46) hx hb hK hP _ 1 (fl_at 0 4 rfl rfl) rfl hi5 d_Grd_cutFrom_46 ?_
        refine va_mmin_long (pc := 47) hx hb (hml.trans hl.1.symm) hown (hts _ (List.mem_cons_of_mem _ tw_1063)) (hts _ (List.mem_cons_of_mem _ tw_941)) (hts _ (List.mem_cons_of_mem _ tw_21)) (hts _ (List.mem_cons_of_mem _ tw_942)) (by decide) (by decide) (Nat.zero_le _) (Nat.zero_le _) d_Grd_cutFrom_47 ?_
        refine lv_topl (fun u6 eu6 => ?_)
        replace hf := o_lt_a eu6 hf
        refine lv_lstore_n (lv' := [(3, .long u6), (0, .ref (hGrd 0)), (1, .int x1_L28), (2, .int x2_L28), (5, .long x5_L28), (7, .int x7_L28)]) (pc := 50) hx hb d_Grd_cutFrom_50 rfl hl (by decide) rfl (fun ls hl => ?_)
        refine lv_lload (pc := 51) hx hb d_Grd_cutFrom_51 (lv_at hl 4 rfl) ?_
        refine lv_aload_n (pc := 53) hx hb d_Grd_cutFrom_53 rfl (lv_at hl 1 rfl) ?_
        refine va_get (D := D) (ci := 9) (v := .ref (hGrd 4)) (C := R_Grd) (T := T_Grd) (N := 9) (pc := 54) hx hb hts (fun w h => List.mem_cons_of_mem _ (in_Grd w h)) hown hK hP _ (fl_at 0 0 rfl rfl) rfl 6 (by decide) (hts _ (List.mem_cons_of_mem _ tw_358)) (fun _ h9 => h9) rfl d_Grd_cutFrom_54 ?_
        refine lv_iload (pc := 57) hx hb d_Grd_cutFrom_57 (lv_at hl 5 rfl) ?_
        refine lv_iconst (v := 1) (pc := 59) hx hb d_Grd_cutFrom_59 (by decide) ?_
        refine lv_isub (pc := 60) hx hb d_Grd_cutFrom_60 ?_
        obtain ⟨hi7, hf⟩ := o_gi_e hf
        refine va_lald (D := D) (pc := 61) hx hb hK hP _ 1 (fl_at 0 4 rfl rfl) rfl hi7 d_Grd_cutFrom_61 ?_
        refine va_mmax_long (pc := 62) hx hb (hml.trans hl.1.symm) hown (hts _ (List.mem_cons_of_mem _ tw_1064)) (hts _ (List.mem_cons_of_mem _ tw_944)) (hts _ (List.mem_cons_of_mem _ tw_21)) (hts _ (List.mem_cons_of_mem _ tw_945)) (by decide) (by decide) (Nat.zero_le _) (Nat.zero_le _) d_Grd_cutFrom_62 ?_
        refine lv_topl (fun u8 eu8 => ?_)
        replace hf := o_lt_a eu8 hf
        refine lv_lstore (lv' := [(5, .long u8), (3, .long u6), (0, .ref (hGrd 0)), (1, .int x1_L28), (2, .int x2_L28), (7, .int x7_L28)]) (pc := 65) hx hb d_Grd_cutFrom_65 hl (by decide) rfl (fun ls hl => ?_)
        refine lv_iload_n (pc := 67) hx hb d_Grd_cutFrom_67 rfl (lv_at hl 4 rfl) ?_
        refine lv_iload (pc := 68) hx hb d_Grd_cutFrom_68 (lv_at hl 5 rfl) ?_
        refine lv_iload_n (pc := 70) hx hb d_Grd_cutFrom_70 rfl (lv_at hl 3 rfl) ?_
        refine lv_isub (pc := 71) hx hb d_Grd_cutFrom_71 ?_
        refine lv_lload (pc := 72) hx hb d_Grd_cutFrom_72 (lv_at hl 0 rfl) ?_
        refine lv_lload_n (pc := 74) hx hb d_Grd_cutFrom_74 rfl (lv_at hl 1 rfl) ?_
        refine lv_lsub (pc := 75) hx hb d_Grd_cutFrom_75 ?_
        obtain ⟨q9, hq9, hf⟩ := o_bd_e hf
        refine fi_i (pc := 76) (va_runSN (As := [.long (u8 - u6)]) (rest := [.int (x7_L28 - x1_L28), .int x2_L28]) ⟨hx, hb, hml, hown, hts⟩ ((c_X_bitLength l D K fu (u8 - u6) q9 hq9) _) (⟨va_cnB 1 hts (tb_in tw_951) rfl rfl rfl (hF.1 _ nw_9) (hts _ (List.mem_cons_of_mem _ tw_1)) (by decide +kernel) ⟨by decide, by decide⟩, (hts _ (List.mem_cons_of_mem _ tw_950)), trivial⟩) ⟨mPre_blind, (mPre_fl hK hF hA hP hD hS [] rfl rfl)⟩ rfl rfl hl.1 rfl (lv_room (Nat.le_of_ble_eq_true rfl)) d_Grd_cutFrom_76 ⟨Nat.zero_le _, Nat.zero_le _⟩) hA hP hD hS [] rfl rfl (fun H locs hP hD hS => ?_)
        have hP : va_P D vwCl (fl [wGrd K hGrd sGrd_L28]) H := hP
        have hD : va_D A (fl [wGrd K hGrd sGrd_L28]) := hD
        refine lv_imul (pc := 79) hx hb d_Grd_cutFrom_79 ?_
        refine lv_iadd (pc := 80) hx hb d_Grd_cutFrom_80 ?_
        refine lv_aload_n (pc := 81) hx hb d_Grd_cutFrom_81 rfl (lv_at hl 2 rfl) ?_
        refine va_get (D := D) (ci := 9) (v := .ref (hGrd 5)) (C := R_Grd) (T := T_Grd) (N := 9) (pc := 82) hx hb hts (fun w h => List.mem_cons_of_mem _ (in_Grd w h)) hown hK hP _ (fl_at 0 0 rfl rfl) rfl 7 (by decide) (hts _ (List.mem_cons_of_mem _ tw_359)) (fun _ h9 => h9) rfl d_Grd_cutFrom_82 ?_
        refine lv_iload (pc := 85) hx hb d_Grd_cutFrom_85 (lv_at hl 5 rfl) ?_
        obtain ⟨hi10, hf⟩ := o_gi_e hf
        refine va_iald (D := D) (pc := 87) hx hb hK hP _ 0 (fl_at 0 5 rfl rfl) rfl hi10 d_Grd_cutFrom_87 ?_
        refine lv_iadd (pc := 88) hx hb d_Grd_cutFrom_88 ?_
        refine lv_topi (fun u11 eu11 => ?_)
        replace hf := o_lt_a eu11 hf
        refine lv_istore (lv' := [(8, .int u11), (5, .long u8), (3, .long u6), (0, .ref (hGrd 0)), (1, .int x1_L28), (2, .int x2_L28), (7, .int x7_L28)]) (pc := 89) hx hb d_Grd_cutFrom_89 hl (by decide) rfl (fun ls hl => ?_)
        refine lv_iload (pc := 91) hx hb d_Grd_cutFrom_91 (lv_at hl 0 rfl) ?_
        refine lv_aload_n (pc := 93) hx hb d_Grd_cutFrom_93 rfl (lv_at hl 3 rfl) ?_
        refine va_get (D := D) (ci := 9) (v := .ref (hGrd 5)) (C := R_Grd) (T := T_Grd) (N := 9) (pc := 94) hx hb hts (fun w h => List.mem_cons_of_mem _ (in_Grd w h)) hown hK hP _ (fl_at 0 0 rfl rfl) rfl 7 (by decide) (hts _ (List.mem_cons_of_mem _ tw_359)) (fun _ h9 => h9) rfl d_Grd_cutFrom_94 ?_
        refine lv_iload_n (pc := 97) hx hb d_Grd_cutFrom_97 rfl (lv_at hl 4 rfl) ?_
        obtain ⟨hi12, hf⟩ := o_gi_e hf
        refine va_iald (D := D) (pc := 98) hx hb hK hP _ 0 (fl_at 0 5 rfl rfl) rfl hi12 d_Grd_cutFrom_98 ?_
        refine lv_icmp_gt (tgt := 118) (pc := 99) hx hb d_Grd_cutFrom_99 (by decide) (fun c17 => ?_) (fun c17 => ?_)
        · replace hf := o_t c17 hf
          exact J118 u6 u8 x7_L28 sGrd_L28 H locs ls hP hD hS (lv_sub hl [3, 4, 5, 2, 1, 6] rfl) hf
        · replace hf := o_f c17 hf
          refine lv_aload_n (pc := 102) hx hb d_Grd_cutFrom_102 rfl (lv_at hl 3 rfl) ?_
          refine va_get (D := D) (ci := 9) (v := .ref (hGrd 5)) (C := R_Grd) (T := T_Grd) (N := 9) (pc := 103) hx hb hts (fun w h => List.mem_cons_of_mem _ (in_Grd w h)) hown hK hP _ (fl_at 0 0 rfl rfl) rfl 7 (by decide) (hts _ (List.mem_cons_of_mem _ tw_359)) (fun _ h9 => h9) rfl d_Grd_cutFrom_103 ?_
          refine lv_iload_n (pc := 106) hx hb d_Grd_cutFrom_106 rfl (lv_at hl 4 rfl) ?_
          refine lv_iload (pc := 107) hx hb d_Grd_cutFrom_107 (lv_at hl 0 rfl) ?_
          obtain ⟨hi13, hf⟩ := o_gi_e hf
          refine va_iast (D := D) (pc := 109) hx hb hK hP hD hS _ 0 (fl_at 0 5 rfl rfl) rfl hi13 d_Grd_cutFrom_109 (fun H locs hP hD hS => ?_)
          obtain ⟨sGrd_14, esGrd_14, hf⟩ := o_lt_e hf
          have hP : va_P D vwCl (fl [wGrd K hGrd sGrd_14]) H := by rw [esGrd_14]; exact fl_P 0 5 rfl (Nat.le_of_ble_eq_true rfl) rfl rfl hP
          have hD : va_D A (fl [wGrd K hGrd sGrd_14]) := by rw [esGrd_14]; exact fl_D 0 5 rfl (Nat.le_of_ble_eq_true rfl) rfl rfl hD
          refine lv_aload_n (pc := 110) hx hb d_Grd_cutFrom_110 rfl (lv_at hl 3 rfl) ?_
          refine va_get (D := D) (ci := 9) (v := .ref (hGrd 6)) (C := R_Grd) (T := T_Grd) (N := 9) (pc := 111) hx hb hts (fun w h => List.mem_cons_of_mem _ (in_Grd w h)) hown hK hP _ (fl_at 0 0 rfl rfl) rfl 8 (by decide) (hts _ (List.mem_cons_of_mem _ tw_360)) (fun _ h9 => h9) rfl d_Grd_cutFrom_111 ?_
          refine lv_iload_n (pc := 114) hx hb d_Grd_cutFrom_114 rfl (lv_at hl 4 rfl) ?_
          refine lv_iload (pc := 115) hx hb d_Grd_cutFrom_115 (lv_at hl 6 rfl) ?_
          obtain ⟨hi15, hf⟩ := o_gi_e hf
          refine va_iast (D := D) (pc := 117) hx hb hK hP hD hS _ 0 (fl_at 0 6 rfl rfl) rfl hi15 d_Grd_cutFrom_117 (fun H locs hP hD hS => ?_)
          obtain ⟨sGrd_16, esGrd_16, hf⟩ := o_lt_e hf
          have hP : va_P D vwCl (fl [wGrd K hGrd sGrd_16]) H := by rw [esGrd_16]; exact fl_P 0 6 rfl (Nat.le_of_ble_eq_true rfl) rfl rfl hP
          have hD : va_D A (fl [wGrd K hGrd sGrd_16]) := by rw [esGrd_16]; exact fl_D 0 6 rfl (Nat.le_of_ble_eq_true rfl) rfl rfl hD
          exact J118 u6 u8 x7_L28 sGrd_16 H locs ls hP hD hS (lv_sub hl [3, 4, 5, 2, 1, 6] rfl) hf
  exact L28 a0 a1 fu (Grd_codes sGrd (a0 : Int32).toNatClampNeg) (Grd_codes sGrd (a0 : Int32).toNatClampNeg) (a0 + 1) sGrd_4 H locs ls hP hD hS (lv_sub hl [3, 4, 5, 2, 1, 0] rfl) hf
def Grd_cut_L17 (fu : Nat) (x1_L17 : Int32) (ke_17 : S_Grd → Option (S_Grd)) : Nat → Int32 → S_Grd → Option (S_Grd)
  | 0, _, _ => none
  | n + 1, x2_L17, sGrd_L17 => if x2_L17 < 0 then ke_17 sGrd_L17 else o_bd (Grd_cutFrom fu x2_L17 (x1_L17 + 11) sGrd_L17) fun q3 => (Grd_cut_L17 fu x1_L17 ke_17 n (x2_L17 + (-1)) q3)
def Grd_cut_L53 (fu : Nat) : Nat → Int32 → S_Grd → Option (S_Grd)
  | 0, _, _ => none
  | n + 1, x2_L53, sGrd_L53 => if (Grd_codeCount sGrd_L53) ≤ x2_L53 then some sGrd_L53 else if 64 ≤ (Grd_groupCount sGrd_L53) then some sGrd_L53 else o_gd (o_in x2_L53 65) (o_gd (o_in (Grd_groupCount sGrd_L53) 64) (o_lt (Grd_put_groupEnds sGrd_L53 (Grd_groupCount sGrd_L53 : Int32).toNatClampNeg (Grd_firstEnds sGrd_L53 (x2_L53 : Int32).toNatClampNeg)) fun sGrd_10 => (o_lt (Grd_set_groupCount sGrd_10 ((Grd_groupCount sGrd_10) + 1)) fun sGrd_11 => (o_gd (o_in x2_L53 65) (o_lt (Grd_firstEnds sGrd_11 (x2_L53 : Int32).toNatClampNeg) fun u13 => (Grd_cut_L53 fu n u13 sGrd_11))))))
def Grd_cut_j36 (fu : Nat) (sGrd_j36 : S_Grd) : Option (S_Grd) := o_gd (o_in 0 65) (o_lt (Grd_set_groupBits sGrd_j36 (Grd_cheapest sGrd_j36 (0 : Int32).toNatClampNeg)) fun sGrd_6 => (o_lt (Grd_set_groupCount sGrd_6 0) fun sGrd_7 => (Grd_cut_L53 fu fu 0 sGrd_7)))
def Grd_cut (fu : Nat) (a0 : Int32) (sGrd : S_Grd) : Option (S_Grd) := o_gd (o_in (Grd_codeCount sGrd) 65) (o_lt (Grd_put_cheapest sGrd (Grd_codeCount sGrd : Int32).toNatClampNeg 0) fun sGrd_2 => (Grd_cut_L17 fu a0 (fun zGrd => Grd_cut_j36 fu zGrd) fu ((Grd_codeCount sGrd_2) - 1) sGrd_2))
abbrev rm_Grd_cut : Room := { frames := 2, cells := 0, slots := 0, locals := 51 }
set_option maxHeartbeats 4000000 in
set_option maxRecDepth 100000 in
theorem c_Grd_cut (l : Launch) (D : va_G) (K : Nat → ClassId) (fu : Nat) (hGrd : Nat → Nat) (sGrd : S_Grd) (a0 : Int32) (sGrd' : S_Grd) (hf : Grd_cut fu a0 sGrd = some sGrd') : mv l D K y_Grd_cut ws_Grd_cut rm_Grd_cut [.ref (hGrd 0), .int a0] (fl [wGrd K hGrd sGrd]) (fl [wGrd K hGrd sGrd']) := by
  refine mv_of (cc := b_Grd_cut) (maxL := 3) (own := "ObsMessages$Grid") (by decide) rfl rfl (Nat.le_of_ble_eq_true rfl) ?_
  intro p e s m below meth c A ls hC hP hD hS hl
  obtain ⟨hx, hb, hml, hown, hts, hr, hlocks, hK, hF, hA⟩ := hC
  have hP : va_P D vwCl (fl [wGrd K hGrd sGrd]) s.heap := hP
  have hl : lv_has ls 3 [(0, .ref (hGrd 0)), (1, .int a0)] := hl
  suffices hW : ∀ (H : Heap) (locs : List Loc), va_P D vwCl (fl [wGrd K hGrd sGrd]) H → va_S A s.heap H locs → W p l e rm_Grd_cut s m ([.ref (hGrd 0), .int a0] : List Value).toArray below meth c H locs 0 0 (Qv below ([.ref (hGrd 0), .int a0] : List Value).toArray s D K A (fl [wGrd K hGrd sGrd'])) (F0 m 0 ls []) from hW s.heap [] hP hS
  clear hP hS
  intro H locs hP hS
  have J36 : ∀ (sGrd_j36 : S_Grd) (H : Heap) (locs : List Loc) (ls : Array Slot), va_P D vwCl (fl [wGrd K hGrd sGrd_j36]) H → va_D A (fl [wGrd K hGrd sGrd_j36]) → va_S A s.heap H locs → lv_has ls 3 [(0, .ref (hGrd 0))] → Grd_cut_j36 fu sGrd_j36 = some sGrd' → W p l e rm_Grd_cut s m ([.ref (hGrd 0), .int a0] : List Value).toArray below meth c H locs 0 0 (Qv below ([.ref (hGrd 0), .int a0] : List Value).toArray s D K A (fl [wGrd K hGrd sGrd'])) (F0 m 36 ls []) := by
    intro sGrd_j36 H locs ls hP hD hS hl hf
    refine lv_aload_n (pc := 36) hx hb d_Grd_cut_36 rfl (lv_at hl 0 rfl) ?_
    refine lv_aload_n (pc := 37) hx hb d_Grd_cut_37 rfl (lv_at hl 0 rfl) ?_
    refine va_get (D := D) (ci := 9) (v := .ref (hGrd 5)) (C := R_Grd) (T := T_Grd) (N := 9) (pc := 38) hx hb hts (fun w h => List.mem_cons_of_mem _ (in_Grd w h)) hown hK hP _ (fl_at 0 0 rfl rfl) rfl 7 (by decide) (hts _ (List.mem_cons_of_mem _ tw_359)) (fun _ h9 => h9) rfl d_Grd_cut_38 ?_
    refine lv_iconst (v := 0) (pc := 41) hx hb d_Grd_cut_41 (by decide) ?_
    obtain ⟨hi5, hf⟩ := o_gi_e hf
    refine va_iald (D := D) (pc := 42) hx hb hK hP _ 0 (fl_at 0 5 rfl rfl) rfl hi5 d_Grd_cut_42 ?_
    refine va_put (D := D) (ci := 9) (v := .int (Grd_cheapest sGrd_j36 (0 : Int32).toNatClampNeg)) (ty := .int) (C := R_Grd) (T := T_Grd) (N := 9) (pc := 43) hx hb hts (fun w h => List.mem_cons_of_mem _ (in_Grd w h)) ty_Grd ty_Grd_ok nm_Grd hown hK hP hD hS _ (fl_at 0 0 rfl rfl) rfl 4 (by decide) (hts _ (List.mem_cons_of_mem _ tw_354)) (fun _ h9 => h9) rfl (by decide +kernel) rfl rfl (Nat.le_of_ble_eq_true rfl) d_Grd_cut_43 (fun H locs hP hD hS => ?_)
    obtain ⟨sGrd_6, esGrd_6, hf⟩ := o_lt_e hf
    have hP : va_P D vwCl (fl [wGrd K hGrd sGrd_6]) H := by rw [esGrd_6]; exact fl_P 0 0 rfl (Nat.le_of_ble_eq_true rfl) rfl rfl hP
    have hD : va_D A (fl [wGrd K hGrd sGrd_6]) := by rw [esGrd_6]; exact fl_D 0 0 rfl (Nat.le_of_ble_eq_true rfl) rfl rfl hD
    refine lv_aload_n (pc := 46) hx hb d_Grd_cut_46 rfl (lv_at hl 0 rfl) ?_
    refine lv_iconst (v := 0) (pc := 47) hx hb d_Grd_cut_47 (by decide) ?_
    refine va_put (D := D) (ci := 9) (v := .int 0) (ty := .int) (C := R_Grd) (T := T_Grd) (N := 9) (pc := 48) hx hb hts (fun w h => List.mem_cons_of_mem _ (in_Grd w h)) ty_Grd ty_Grd_ok nm_Grd hown hK hP hD hS _ (fl_at 0 0 rfl rfl) rfl 3 (by decide) (hts _ (List.mem_cons_of_mem _ tw_352)) (fun _ h9 => h9) rfl (by decide +kernel) rfl rfl (Nat.le_of_ble_eq_true rfl) d_Grd_cut_48 (fun H locs hP hD hS => ?_)
    obtain ⟨sGrd_7, esGrd_7, hf⟩ := o_lt_e hf
    have hP : va_P D vwCl (fl [wGrd K hGrd sGrd_7]) H := by rw [esGrd_7]; exact fl_P 0 0 rfl (Nat.le_of_ble_eq_true rfl) rfl rfl hP
    have hD : va_D A (fl [wGrd K hGrd sGrd_7]) := by rw [esGrd_7]; exact fl_D 0 0 rfl (Nat.le_of_ble_eq_true rfl) rfl rfl hD
    refine lv_iconst (v := 0) (pc := 51) hx hb d_Grd_cut_51 (by decide) ?_
    refine lv_istore_n (lv' := [(2, .int 0), (0, .ref (hGrd 0))]) (pc := 52) hx hb d_Grd_cut_52 rfl hl (by decide) rfl (fun ls hl => ?_)
    have L53 : ∀  (n : Nat) (x2_L53 : Int32) (sGrd_L53 : S_Grd) (H : Heap) (locs : List Loc) (ls : Array Slot), va_P D vwCl (fl [wGrd K hGrd sGrd_L53]) H → va_D A (fl [wGrd K hGrd sGrd_L53]) → va_S A s.heap H locs → lv_has ls 3 [(0, .ref (hGrd 0)), (2, .int x2_L53)] → Grd_cut_L53 fu n x2_L53 sGrd_L53 = some sGrd' → W p l e rm_Grd_cut s m ([.ref (hGrd 0), .int a0] : List Value).toArray below meth c H locs 0 0 (Qv below ([.ref (hGrd 0), .int a0] : List Value).toArray s D K A (fl [wGrd K hGrd sGrd'])) (F0 m 53 ls []) := by
      intro n
      induction n with
      | zero =>
        intro x2_L53 sGrd_L53 H locs ls hP hD hS hl hf
        exact absurd hf (fun h => nomatch h)
      | succ n_53 ih_53 =>
        intro x2_L53 sGrd_L53 H locs ls hP hD hS hl hf
        refine lv_iload_n (pc := 53) hx hb d_Grd_cut_53 rfl (lv_at hl 1 rfl) ?_
        refine lv_aload_n (pc := 54) hx hb d_Grd_cut_54 rfl (lv_at hl 0 rfl) ?_
        refine va_get (D := D) (ci := 9) (v := .int (Grd_codeCount sGrd_L53)) (C := R_Grd) (T := T_Grd) (N := 9) (pc := 55) hx hb hts (fun w h => List.mem_cons_of_mem _ (in_Grd w h)) hown hK hP _ (fl_at 0 0 rfl rfl) rfl 5 (by decide) (hts _ (List.mem_cons_of_mem _ tw_356)) (fun _ h9 => h9) rfl d_Grd_cut_55 ?_
        refine lv_icmp_ge (tgt := 105) (pc := 58) hx hb d_Grd_cut_58 (by decide) (fun c15 => ?_) (fun c15 => ?_)
        · replace hf := o_t c15 hf
          cases hf
          exact ret_v hx hb hr hlocks hK hP hS d_Grd_cut_105
        · replace hf := o_f c15 hf
          refine lv_aload_n (pc := 61) hx hb d_Grd_cut_61 rfl (lv_at hl 0 rfl) ?_
          refine va_get (D := D) (ci := 9) (v := .int (Grd_groupCount sGrd_L53)) (C := R_Grd) (T := T_Grd) (N := 9) (pc := 62) hx hb hts (fun w h => List.mem_cons_of_mem _ (in_Grd w h)) hown hK hP _ (fl_at 0 0 rfl rfl) rfl 3 (by decide) (hts _ (List.mem_cons_of_mem _ tw_352)) (fun _ h9 => h9) rfl d_Grd_cut_62 ?_
          refine lv_bipush (v := 64) (pc := 65) hx hb d_Grd_cut_65 (by decide) ?_
          refine lv_icmp_ge (tgt := 105) (pc := 67) hx hb d_Grd_cut_67 (by decide) (fun c14 => ?_) (fun c14 => ?_)
          · replace hf := o_t c14 hf
            cases hf
            exact ret_v hx hb hr hlocks hK hP hS d_Grd_cut_105
          · replace hf := o_f c14 hf
            refine lv_aload_n (pc := 70) hx hb d_Grd_cut_70 rfl (lv_at hl 0 rfl) ?_
            refine va_get (D := D) (ci := 9) (v := .ref (hGrd 3)) (C := R_Grd) (T := T_Grd) (N := 9) (pc := 71) hx hb hts (fun w h => List.mem_cons_of_mem _ (in_Grd w h)) hown hK hP _ (fl_at 0 0 rfl rfl) rfl 2 (by decide) (hts _ (List.mem_cons_of_mem _ tw_350)) (fun _ h9 => h9) rfl d_Grd_cut_71 ?_
            refine lv_aload_n (pc := 74) hx hb d_Grd_cut_74 rfl (lv_at hl 0 rfl) ?_
            refine va_get (D := D) (ci := 9) (v := .int (Grd_groupCount sGrd_L53)) (C := R_Grd) (T := T_Grd) (N := 9) (pc := 75) hx hb hts (fun w h => List.mem_cons_of_mem _ (in_Grd w h)) hown hK hP _ (fl_at 0 0 rfl rfl) rfl 3 (by decide) (hts _ (List.mem_cons_of_mem _ tw_352)) (fun _ h9 => h9) rfl d_Grd_cut_75 ?_
            refine lv_aload_n (pc := 78) hx hb d_Grd_cut_78 rfl (lv_at hl 0 rfl) ?_
            refine va_get (D := D) (ci := 9) (v := .ref (hGrd 6)) (C := R_Grd) (T := T_Grd) (N := 9) (pc := 79) hx hb hts (fun w h => List.mem_cons_of_mem _ (in_Grd w h)) hown hK hP _ (fl_at 0 0 rfl rfl) rfl 8 (by decide) (hts _ (List.mem_cons_of_mem _ tw_360)) (fun _ h9 => h9) rfl d_Grd_cut_79 ?_
            refine lv_iload_n (pc := 82) hx hb d_Grd_cut_82 rfl (lv_at hl 1 rfl) ?_
            obtain ⟨hi8, hf⟩ := o_gi_e hf
            refine va_iald (D := D) (pc := 83) hx hb hK hP _ 0 (fl_at 0 6 rfl rfl) rfl hi8 d_Grd_cut_83 ?_
            obtain ⟨hi9, hf⟩ := o_gi_e hf
            refine va_iast (D := D) (pc := 84) hx hb hK hP hD hS _ 0 (fl_at 0 3 rfl rfl) rfl hi9 d_Grd_cut_84 (fun H locs hP hD hS => ?_)
            obtain ⟨sGrd_10, esGrd_10, hf⟩ := o_lt_e hf
            have hP : va_P D vwCl (fl [wGrd K hGrd sGrd_10]) H := by rw [esGrd_10]; exact fl_P 0 3 rfl (Nat.le_of_ble_eq_true rfl) rfl rfl hP
            have hD : va_D A (fl [wGrd K hGrd sGrd_10]) := by rw [esGrd_10]; exact fl_D 0 3 rfl (Nat.le_of_ble_eq_true rfl) rfl rfl hD
            refine lv_aload_n (pc := 85) hx hb d_Grd_cut_85 rfl (lv_at hl 0 rfl) ?_
            refine lv_dup (pc := 86) hx hb d_Grd_cut_86 rfl ?_
            refine va_get (D := D) (ci := 9) (v := .int (Grd_groupCount sGrd_10)) (C := R_Grd) (T := T_Grd) (N := 9) (pc := 87) hx hb hts (fun w h => List.mem_cons_of_mem _ (in_Grd w h)) hown hK hP _ (fl_at 0 0 rfl rfl) rfl 3 (by decide) (hts _ (List.mem_cons_of_mem _ tw_352)) (fun _ h9 => h9) rfl d_Grd_cut_87 ?_
            refine lv_iconst (v := 1) (pc := 90) hx hb d_Grd_cut_90 (by decide) ?_
            refine lv_iadd (pc := 91) hx hb d_Grd_cut_91 ?_
            refine va_put (D := D) (ci := 9) (v := .int ((Grd_groupCount sGrd_10) + 1)) (ty := .int) (C := R_Grd) (T := T_Grd) (N := 9) (pc := 92) hx hb hts (fun w h => List.mem_cons_of_mem _ (in_Grd w h)) ty_Grd ty_Grd_ok nm_Grd hown hK hP hD hS _ (fl_at 0 0 rfl rfl) rfl 3 (by decide) (hts _ (List.mem_cons_of_mem _ tw_352)) (fun _ h9 => h9) rfl (by decide +kernel) rfl rfl (Nat.le_of_ble_eq_true rfl) d_Grd_cut_92 (fun H locs hP hD hS => ?_)
            obtain ⟨sGrd_11, esGrd_11, hf⟩ := o_lt_e hf
            have hP : va_P D vwCl (fl [wGrd K hGrd sGrd_11]) H := by rw [esGrd_11]; exact fl_P 0 0 rfl (Nat.le_of_ble_eq_true rfl) rfl rfl hP
            have hD : va_D A (fl [wGrd K hGrd sGrd_11]) := by rw [esGrd_11]; exact fl_D 0 0 rfl (Nat.le_of_ble_eq_true rfl) rfl rfl hD
            refine lv_aload_n (pc := 95) hx hb d_Grd_cut_95 rfl (lv_at hl 0 rfl) ?_
            refine va_get (D := D) (ci := 9) (v := .ref (hGrd 6)) (C := R_Grd) (T := T_Grd) (N := 9) (pc := 96) hx hb hts (fun w h => List.mem_cons_of_mem _ (in_Grd w h)) hown hK hP _ (fl_at 0 0 rfl rfl) rfl 8 (by decide) (hts _ (List.mem_cons_of_mem _ tw_360)) (fun _ h9 => h9) rfl d_Grd_cut_96 ?_
            refine lv_iload_n (pc := 99) hx hb d_Grd_cut_99 rfl (lv_at hl 1 rfl) ?_
            obtain ⟨hi12, hf⟩ := o_gi_e hf
            refine va_iald (D := D) (pc := 100) hx hb hK hP _ 0 (fl_at 0 6 rfl rfl) rfl hi12 d_Grd_cut_100 ?_
            refine lv_topi (fun u13 eu13 => ?_)
            replace hf := o_lt_a eu13 hf
            refine lv_istore_n (lv' := [(2, .int u13), (0, .ref (hGrd 0))]) (pc := 101) hx hb d_Grd_cut_101 rfl hl (by decide) rfl (fun ls hl => ?_)
            refine lv_goto (tgt := 53) (pc := 102) hx hb d_Grd_cut_102 (by decide) ?_
            exact ih_53 u13 sGrd_11 H locs ls hP hD hS (lv_sub hl [1, 0] rfl) hf
    exact L53 fu 0 sGrd_7 H locs ls hP hD hS (lv_sub hl [1, 0] rfl) hf
  refine lv_aload_n (pc := 0) hx hb d_Grd_cut_0 rfl (lv_at hl 0 rfl) ?_
  refine va_get (D := D) (ci := 9) (v := .ref (hGrd 5)) (C := R_Grd) (T := T_Grd) (N := 9) (pc := 1) hx hb hts (fun w h => List.mem_cons_of_mem _ (in_Grd w h)) hown hK hP _ (fl_at 0 0 rfl rfl) rfl 7 (by decide) (hts _ (List.mem_cons_of_mem _ tw_359)) (fun _ h9 => h9) rfl d_Grd_cut_1 ?_
  refine lv_aload_n (pc := 4) hx hb d_Grd_cut_4 rfl (lv_at hl 0 rfl) ?_
  refine va_get (D := D) (ci := 9) (v := .int (Grd_codeCount sGrd)) (C := R_Grd) (T := T_Grd) (N := 9) (pc := 5) hx hb hts (fun w h => List.mem_cons_of_mem _ (in_Grd w h)) hown hK hP _ (fl_at 0 0 rfl rfl) rfl 5 (by decide) (hts _ (List.mem_cons_of_mem _ tw_356)) (fun _ h9 => h9) rfl d_Grd_cut_5 ?_
  refine lv_iconst (v := 0) (pc := 8) hx hb d_Grd_cut_8 (by decide) ?_
  obtain ⟨hi1, hf⟩ := o_gi_e hf
  refine va_iast (D := D) (pc := 9) hx hb hK hP hD hS _ 0 (fl_at 0 5 rfl rfl) rfl hi1 d_Grd_cut_9 (fun H locs hP hD hS => ?_)
  obtain ⟨sGrd_2, esGrd_2, hf⟩ := o_lt_e hf
  have hP : va_P D vwCl (fl [wGrd K hGrd sGrd_2]) H := by rw [esGrd_2]; exact fl_P 0 5 rfl (Nat.le_of_ble_eq_true rfl) rfl rfl hP
  have hD : va_D A (fl [wGrd K hGrd sGrd_2]) := by rw [esGrd_2]; exact fl_D 0 5 rfl (Nat.le_of_ble_eq_true rfl) rfl rfl hD
  refine lv_aload_n (pc := 10) hx hb d_Grd_cut_10 rfl (lv_at hl 0 rfl) ?_
  refine va_get (D := D) (ci := 9) (v := .int (Grd_codeCount sGrd_2)) (C := R_Grd) (T := T_Grd) (N := 9) (pc := 11) hx hb hts (fun w h => List.mem_cons_of_mem _ (in_Grd w h)) hown hK hP _ (fl_at 0 0 rfl rfl) rfl 5 (by decide) (hts _ (List.mem_cons_of_mem _ tw_356)) (fun _ h9 => h9) rfl d_Grd_cut_11 ?_
  refine lv_iconst (v := 1) (pc := 14) hx hb d_Grd_cut_14 (by decide) ?_
  refine lv_isub (pc := 15) hx hb d_Grd_cut_15 ?_
  refine lv_istore_n (lv' := [(2, .int ((Grd_codeCount sGrd_2) - 1)), (0, .ref (hGrd 0)), (1, .int a0)]) (pc := 16) hx hb d_Grd_cut_16 rfl hl (by decide) rfl (fun ls hl => ?_)
  have L17 : ∀ (x1_L17 : Int32) (n : Nat) (x2_L17 : Int32) (sGrd_L17 : S_Grd) (H : Heap) (locs : List Loc) (ls : Array Slot), va_P D vwCl (fl [wGrd K hGrd sGrd_L17]) H → va_D A (fl [wGrd K hGrd sGrd_L17]) → va_S A s.heap H locs → lv_has ls 3 [(0, .ref (hGrd 0)), (1, .int x1_L17), (2, .int x2_L17)] → Grd_cut_L17 fu x1_L17 (fun zGrd => Grd_cut_j36 fu zGrd) n x2_L17 sGrd_L17 = some sGrd' → W p l e rm_Grd_cut s m ([.ref (hGrd 0), .int a0] : List Value).toArray below meth c H locs 0 0 (Qv below ([.ref (hGrd 0), .int a0] : List Value).toArray s D K A (fl [wGrd K hGrd sGrd'])) (F0 m 17 ls []) := by
    intro x1_L17 n
    induction n with
    | zero =>
      intro x2_L17 sGrd_L17 H locs ls hP hD hS hl hf
      exact absurd hf (fun h => nomatch h)
    | succ n_17 ih_17 =>
      intro x2_L17 sGrd_L17 H locs ls hP hD hS hl hf
      refine lv_iload_n (pc := 17) hx hb d_Grd_cut_17 rfl (lv_at hl 2 rfl) ?_
      refine lv_if_lt (tgt := 36) (pc := 18) hx hb d_Grd_cut_18 (by decide) (fun c4 => ?_) (fun c4 => ?_)
      · replace hf := o_t c4 hf
        exact J36 sGrd_L17 H locs ls hP hD hS (lv_sub hl [0] rfl) hf
      · replace hf := o_f c4 hf
        refine lv_aload_n (pc := 21) hx hb d_Grd_cut_21 rfl (lv_at hl 0 rfl) ?_
        refine lv_iload_n (pc := 22) hx hb d_Grd_cut_22 rfl (lv_at hl 2 rfl) ?_
        refine lv_iload_n (pc := 23) hx hb d_Grd_cut_23 rfl (lv_at hl 1 rfl) ?_
        refine lv_bipush (v := 11) (pc := 24) hx hb d_Grd_cut_24 (by decide) ?_
        refine lv_iadd (pc := 26) hx hb d_Grd_cut_26 ?_
        obtain ⟨q3, hq3, hf⟩ := o_bd_e hf
        refine fi_v (pc := 27) (va_runV (As := [.int x2_L17, .int (x1_L17 + 11)]) (rest := []) ⟨hx, hb, hml, hown, hts⟩ ((c_Grd_cutFrom l D K fu hGrd sGrd_L17 x2_L17 (x1_L17 + 11) q3 hq3) _) (cwV 2 hts (gV tw_1080 tw_1082 tp_37 tw_10 tw_1083) rfl rfl rfl (by decide +kernel) ⟨by decide, by decide⟩) ⟨mPre_blind, va_recv hK hP (ci := 9) rfl (fl_at 0 0 rfl rfl), (mPre_fl hK hF hA hP hD hS [0] rfl rfl)⟩ rfl rfl hl.1 rfl (lv_room (Nat.le_of_ble_eq_true rfl)) d_Grd_cut_27 ⟨Nat.zero_le _, Nat.zero_le _⟩) hA hP hD hS [0] rfl rfl (fun H locs hP hD hS => ?_)
        have hP : va_P D vwCl (fl [wGrd K hGrd q3]) H := hP
        have hD : va_D A (fl [wGrd K hGrd q3]) := hD
        refine lv_iinc (v := x2_L17 + (-1)) (lv' := [(2, .int (x2_L17 + (-1))), (0, .ref (hGrd 0)), (1, .int x1_L17)]) (pc := 30) hx hb d_Grd_cut_30 hl (k := 2) rfl rfl (by decide) rfl (fun ls hl => ?_)
        refine lv_goto (tgt := 17) (pc := 33) hx hb d_Grd_cut_33 (by decide) ?_
        exact ih_17 (x2_L17 + (-1)) q3 H locs ls hP hD hS (lv_sub hl [1, 2, 0] rfl) hf
  exact L17 a0 fu ((Grd_codeCount sGrd_2) - 1) sGrd_2 H locs ls hP hD hS (lv_sub hl [1, 2, 0] rfl) hf
