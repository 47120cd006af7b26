def X_isSubset (a0 : Int32) : Option (Int32) := if a0 < 0 then some 0 else if 8 ≤ a0 then some 0 else some 1
abbrev rm_X_isSubset : Room := { frames := 0, cells := 0, slots := 0, locals := 0 }
set_option maxHeartbeats 4000000 in
set_option maxRecDepth 100000 in
theorem c_X_isSubset (l : Launch) (D : va_G) (K : Nat → ClassId) (a0 : Int32) (r : Int32) (hf : X_isSubset a0 = some r) : mi l D K y_X_isSubset ws_X_isSubset rm_X_isSubset [.int a0] (fl []) (fl []) r := by
  refine mi_of (cc := b_X_isSubset) (maxL := 1) (own := "ObsMessages") (by decide) rfl rfl (Nat.le_of_ble_eq_true rfl) ?_
  intro p e s m below meth c A ls hC hP hD hS hl
  obtain ⟨hx, hb, hml, hown, hts, hr, hlocks, hK, hF, hA⟩ := hC
  have hP : va_P D vwCl (fl []) s.heap := hP
  have hl : lv_has ls 1 [(0, .int a0)] := hl
  suffices hW : ∀ (H : Heap) (locs : List Loc), va_P D vwCl (fl []) H → va_S A s.heap H locs → W p l e rm_X_isSubset s m ([.int a0] : List Value).toArray below meth c H locs 0 0 (Qi below ([.int a0] : List Value).toArray s D K A (fl []) r) (F0 m 0 ls []) from hW s.heap [] hP hS
  clear hP hS
  intro H locs hP hS
  refine lv_iload_n (pc := 0) hx hb d_X_isSubset_0 rfl (lv_at hl 0 rfl) ?_
  refine lv_if_lt (tgt := 14) (pc := 1) hx hb d_X_isSubset_1 (by decide) (fun c2 => ?_) (fun c2 => ?_)
  · replace hf := o_t c2 hf
    refine lv_iconst (v := 0) (pc := 14) hx hb d_X_isSubset_14 (by decide) ?_
    cases hf
    exact ret_z hx hb hr hlocks hK hP hS rfl d_X_isSubset_15
  · replace hf := o_f c2 hf
    refine lv_iload_n (pc := 4) hx hb d_X_isSubset_4 rfl (lv_at hl 0 rfl) ?_
    refine lv_bipush (v := 8) (pc := 5) hx hb d_X_isSubset_5 (by decide) ?_
    refine lv_icmp_ge (tgt := 14) (pc := 7) hx hb d_X_isSubset_7 (by decide) (fun c1 => ?_) (fun c1 => ?_)
    · replace hf := o_t c1 hf
      refine lv_iconst (v := 0) (pc := 14) hx hb d_X_isSubset_14 (by decide) ?_
      cases hf
      exact ret_z hx hb hr hlocks hK hP hS rfl d_X_isSubset_15
    · replace hf := o_f c1 hf
      refine lv_iconst (v := 1) (pc := 10) hx hb d_X_isSubset_10 (by decide) ?_
      refine lv_goto (tgt := 15) (pc := 11) hx hb d_X_isSubset_11 (by decide) ?_
      cases hf
      exact ret_z hx hb hr hlocks hK hP hS rfl d_X_isSubset_15
def X_isValue (a0 : Int32) (a1 : Int32) : Option (Int32) := o_bd (X_isSubset a0) fun q1 => (if q1 = 0 then some 0 else if a1 < 0 then some 0 else if 100 ≤ a1 then some 0 else some 1)
abbrev rm_X_isValue : Room := { frames := 1, cells := 0, slots := 0, locals := 20 }
set_option maxHeartbeats 4000000 in
set_option maxRecDepth 100000 in
theorem c_X_isValue (l : Launch) (D : va_G) (K : Nat → ClassId) (a0 : Int32) (a1 : Int32) (r : Int32) (hf : X_isValue a0 a1 = some r) : mi l D K y_X_isValue ws_X_isValue rm_X_isValue [.int a0, .int a1] (fl []) (fl []) r := by
  refine mi_of (cc := b_X_isValue) (maxL := 2) (own := "ObsMessages") (by decide) rfl rfl (Nat.le_of_ble_eq_true rfl) ?_
  intro p e s m below meth c A ls hC hP hD hS hl
  obtain ⟨hx, hb, hml, hown, hts, hr, hlocks, hK, hF, hA⟩ := hC
  have hP : va_P D vwCl (fl []) s.heap := hP
  have hl : lv_has ls 2 [(0, .int a0), (1, .int a1)] := hl
  suffices hW : ∀ (H : Heap) (locs : List Loc), va_P D vwCl (fl []) H → va_S A s.heap H locs → W p l e rm_X_isValue s m ([.int a0, .int a1] : List Value).toArray below meth c H locs 0 0 (Qi below ([.int a0, .int a1] : List Value).toArray s D K A (fl []) r) (F0 m 0 ls []) from hW s.heap [] hP hS
  clear hP hS
  intro H locs hP hS
  refine lv_iload_n (pc := 0) hx hb d_X_isValue_0 rfl (lv_at hl 0 rfl) ?_
  obtain ⟨q1, hq1, hf⟩ := o_bd_e hf
  refine fi_i (pc := 1) (va_runS (As := [.int a0]) (rest := []) ⟨hx, hb, hml, hown, hts⟩ ((c_X_isSubset l D K a0 q1 hq1) _) (cwS 1 hts (gS tw_439 tw_440 tw_1 tw_441) rfl rfl rfl (by decide +kernel) ⟨by decide, by decide⟩) ⟨mPre_blind, (mPre_fl hK hF hA hP hD hS [] rfl rfl)⟩ rfl rfl hl.1 rfl (lv_room (Nat.le_of_ble_eq_true rfl)) d_X_isValue_1 ⟨Nat.zero_le _, Nat.zero_le _⟩) hA hP hD hS [] rfl rfl (fun H locs hP hD hS => ?_)
  have hP : va_P D vwCl (fl []) H := hP
  have hD : va_D A (fl []) := hD
  refine lv_if_eq (tgt := 21) (pc := 4) hx hb d_X_isValue_4 (by decide) (fun c4 => ?_) (fun c4 => ?_)
  · replace hf := o_t c4 hf
    refine lv_iconst (v := 0) (pc := 21) hx hb d_X_isValue_21 (by decide) ?_
    cases hf
    exact ret_z hx hb hr hlocks hK hP hS rfl d_X_isValue_22
  · replace hf := o_f c4 hf
    refine lv_iload_n (pc := 7) hx hb d_X_isValue_7 rfl (lv_at hl 1 rfl) ?_
    refine lv_if_lt (tgt := 21) (pc := 8) hx hb d_X_isValue_8 (by decide) (fun c3 => ?_) (fun c3 => ?_)
    · replace hf := o_t c3 hf
      refine lv_iconst (v := 0) (pc := 21) hx hb d_X_isValue_21 (by decide) ?_
      cases hf
      exact ret_z hx hb hr hlocks hK hP hS rfl d_X_isValue_22
    · replace hf := o_f c3 hf
      refine lv_iload_n (pc := 11) hx hb d_X_isValue_11 rfl (lv_at hl 1 rfl) ?_
      refine lv_bipush (v := 100) (pc := 12) hx hb d_X_isValue_12 (by decide) ?_
      refine lv_icmp_ge (tgt := 21) (pc := 14) hx hb d_X_isValue_14 (by decide) (fun c2 => ?_) (fun c2 => ?_)
      · replace hf := o_t c2 hf
        refine lv_iconst (v := 0) (pc := 21) hx hb d_X_isValue_21 (by decide) ?_
        cases hf
        exact ret_z hx hb hr hlocks hK hP hS rfl d_X_isValue_22
      · replace hf := o_f c2 hf
        refine lv_iconst (v := 1) (pc := 17) hx hb d_X_isValue_17 (by decide) ?_
        refine lv_goto (tgt := 22) (pc := 18) hx hb d_X_isValue_18 (by decide) ?_
        cases hf
        exact ret_z hx hb hr hlocks hK hP hS rfl d_X_isValue_22
def X_placeOf (a0 : Int32) (a1 : Int32) : Option (Int32) := some ((100 * a0) + a1)
abbrev rm_X_placeOf : Room := { frames := 0, cells := 0, slots := 0, locals := 0 }
set_option maxHeartbeats 4000000 in
set_option maxRecDepth 100000 in
theorem c_X_placeOf (l : Launch) (D : va_G) (K : Nat → ClassId) (a0 : Int32) (a1 : Int32) (r : Int32) (hf : X_placeOf a0 a1 = some r) : mi l D K y_X_placeOf ws_X_placeOf rm_X_placeOf [.int a0, .int a1] (fl []) (fl []) r := by
  refine mi_of (cc := b_X_placeOf) (maxL := 2) (own := "ObsMessages") (by decide) rfl rfl (Nat.le_of_ble_eq_true rfl) ?_
  intro p e s m below meth c A ls hC hP hD hS hl
  obtain ⟨hx, hb, hml, hown, hts, hr, hlocks, hK, hF, hA⟩ := hC
  have hP : va_P D vwCl (fl []) s.heap := hP
  have hl : lv_has ls 2 [(0, .int a0), (1, .int a1)] := hl
  suffices hW : ∀ (H : Heap) (locs : List Loc), va_P D vwCl (fl []) H → va_S A s.heap H locs → W p l e rm_X_placeOf s m ([.int a0, .int a1] : List Value).toArray below meth c H locs 0 0 (Qi below ([.int a0, .int a1] : List Value).toArray s D K A (fl []) r) (F0 m 0 ls []) from hW s.heap [] hP hS
  clear hP hS
  intro H locs hP hS
  refine lv_bipush (v := 100) (pc := 0) hx hb d_X_placeOf_0 (by decide) ?_
  refine lv_iload_n (pc := 2) hx hb d_X_placeOf_2 rfl (lv_at hl 0 rfl) ?_
  refine lv_imul (pc := 3) hx hb d_X_placeOf_3 ?_
  refine lv_iload_n (pc := 4) hx hb d_X_placeOf_4 rfl (lv_at hl 1 rfl) ?_
  refine lv_iadd (pc := 5) hx hb d_X_placeOf_5 ?_
  cases hf
  exact ret_i hx hb hr hlocks hK hP hS d_X_placeOf_6
def X_bitLength_L2 (fu : Nat) (x0_L2 : Int64) : Nat → Int32 → Option (Int32)
  | 0, _ => none
  | n + 1, x2_L2 => if 63 ≤ x2_L2 then some x2_L2 else if (x0_L2 >>> ((x2_L2 : Int32).toInt64 &&& 63)) = 0 then some x2_L2 else X_bitLength_L2 fu x0_L2 n (x2_L2 + 1)
def X_bitLength (fu : Nat) (a0 : Int64) : Option (Int32) := X_bitLength_L2 fu a0 fu 0
abbrev rm_X_bitLength : Room := { frames := 0, cells := 0, slots := 0, locals := 0 }
set_option maxHeartbeats 4000000 in
set_option maxRecDepth 100000 in
theorem c_X_bitLength (l : Launch) (D : va_G) (K : Nat → ClassId) (fu : Nat) (a0 : Int64) (r : Int32) (hf : X_bitLength fu a0 = some r) : mi l D K y_X_bitLength ws_X_bitLength rm_X_bitLength [.long a0] (fl []) (fl []) r := by
  refine mi_of (cc := b_X_bitLength) (maxL := 3) (own := "ObsMessages") (by decide) rfl rfl (Nat.le_of_ble_eq_true rfl) ?_
  intro p e s m below meth c A ls hC hP hD hS hl
  obtain ⟨hx, hb, hml, hown, hts, hr, hlocks, hK, hF, hA⟩ := hC
  have hP : va_P D vwCl (fl []) s.heap := hP
  have hl : lv_has ls 3 [(0, .long a0)] := hl
  suffices hW : ∀ (H : Heap) (locs : List Loc), va_P D vwCl (fl []) H → va_S A s.heap H locs → W p l e rm_X_bitLength s m ([.long a0] : List Value).toArray below meth c H locs 0 0 (Qi below ([.long a0] : List Value).toArray s D K A (fl []) r) (F0 m 0 ls []) from hW s.heap [] hP hS
  clear hP hS
  intro H locs hP hS
  refine lv_iconst (v := 0) (pc := 0) hx hb d_X_bitLength_0 (by decide) ?_
  refine lv_istore_n (lv' := [(2, .int 0), (0, .long a0)]) (pc := 1) hx hb d_X_bitLength_1 rfl hl (by decide) rfl (fun ls hl => ?_)
  have L2 : ∀ (x0_L2 : Int64) (n : Nat) (x2_L2 : Int32) (H : Heap) (locs : List Loc) (ls : Array Slot), va_P D vwCl (fl []) H → va_D A (fl []) → va_S A s.heap H locs → lv_has ls 3 [(0, .long x0_L2), (2, .int x2_L2)] → X_bitLength_L2 fu x0_L2 n x2_L2 = some r → W p l e rm_X_bitLength s m ([.long a0] : List Value).toArray below meth c H locs 0 0 (Qi below ([.long a0] : List Value).toArray s D K A (fl []) r) (F0 m 2 ls []) := by
    intro x0_L2 n
    induction n with
    | zero =>
      intro x2_L2 H locs ls hP hD hS hl hf
      exact absurd hf (fun h => nomatch h)
    | succ n_2 ih_2 =>
      intro x2_L2 H locs ls hP hD hS hl hf
      refine lv_iload_n (pc := 2) hx hb d_X_bitLength_2 rfl (lv_at hl 1 rfl) ?_
      refine lv_bipush (v := 63) (pc := 3) hx hb d_X_bitLength_3 (by decide) ?_
      refine lv_icmp_ge (tgt := 22) (pc := 5) hx hb d_X_bitLength_5 (by decide) (fun c2 => ?_) (fun c2 => ?_)
      · replace hf := o_t c2 hf
        refine lv_iload_n (pc := 22) hx hb d_X_bitLength_22 rfl (lv_at hl 1 rfl) ?_
        cases hf
        exact ret_i hx hb hr hlocks hK hP hS d_X_bitLength_23
      · replace hf := o_f c2 hf
        refine lv_lload_n (pc := 8) hx hb d_X_bitLength_8 rfl (lv_at hl 0 rfl) ?_
        refine lv_iload_n (pc := 9) hx hb d_X_bitLength_9 rfl (lv_at hl 1 rfl) ?_
        refine lv_lshr (pc := 10) hx hb d_X_bitLength_10 rfl ?_
        refine lv_lconst (v := 0) (pc := 11) hx hb d_X_bitLength_11 (by decide) ?_
        refine lc_eq (tgt := 22) (pc := 12) hx hb d_X_bitLength_12 d_X_bitLength_13 (by decide) (fun c1 => ?_) (fun c1 => ?_)
        · replace hf := o_t c1 hf
          refine lv_iload_n (pc := 22) hx hb d_X_bitLength_22 rfl (lv_at hl 1 rfl) ?_
          cases hf
          exact ret_i hx hb hr hlocks hK hP hS d_X_bitLength_23
        · replace hf := o_f c1 hf
          refine lv_iinc (v := x2_L2 + 1) (lv' := [(2, .int (x2_L2 + 1)), (0, .long x0_L2)]) (pc := 16) hx hb d_X_bitLength_16 hl (k := 1) rfl rfl (by decide) rfl (fun ls hl => ?_)
          refine lv_goto (tgt := 2) (pc := 19) hx hb d_X_bitLength_19 (by decide) ?_
          exact ih_2 (x2_L2 + 1) H locs ls hP hD hS (lv_sub hl [1, 0] rfl) hf
  exact L2 a0 fu 0 H locs ls hP hD hS (lv_sub hl [1, 0] rfl) hf
def X_allOnes (a0 : Int32) : Option (Int64) := some ((1 <<< ((a0 : Int32).toInt64 &&& 63)) - 1)
abbrev rm_X_allOnes : Room := { frames := 0, cells := 0, slots := 0, locals := 0 }
set_option maxHeartbeats 4000000 in
set_option maxRecDepth 100000 in
theorem c_X_allOnes (l : Launch) (D : va_G) (K : Nat → ClassId) (a0 : Int32) (r : Int64) (hf : X_allOnes a0 = some r) : ml l D K y_X_allOnes ws_X_allOnes rm_X_allOnes [.int a0] (fl []) (fl []) r := by
  refine ml_of (cc := b_X_allOnes) (maxL := 1) (own := "ObsMessages") (by decide) rfl rfl (Nat.le_of_ble_eq_true rfl) ?_
  intro p e s m below meth c A ls hC hP hD hS hl
  obtain ⟨hx, hb, hml, hown, hts, hr, hlocks, hK, hF, hA⟩ := hC
  have hP : va_P D vwCl (fl []) s.heap := hP
  have hl : lv_has ls 1 [(0, .int a0)] := hl
  suffices hW : ∀ (H : Heap) (locs : List Loc), va_P D vwCl (fl []) H → va_S A s.heap H locs → W p l e rm_X_allOnes s m ([.int a0] : List Value).toArray below meth c H locs 0 0 (Ql below ([.int a0] : List Value).toArray s D K A (fl []) r) (F0 m 0 ls []) from hW s.heap [] hP hS
  clear hP hS
  intro H locs hP hS
  refine lv_lconst (v := 1) (pc := 0) hx hb d_X_allOnes_0 (by decide) ?_
  refine lv_iload_n (pc := 1) hx hb d_X_allOnes_1 rfl (lv_at hl 0 rfl) ?_
  refine lv_lshl (pc := 2) hx hb d_X_allOnes_2 rfl ?_
  refine lv_lconst (v := 1) (pc := 3) hx hb d_X_allOnes_3 (by decide) ?_
  refine lv_lsub (pc := 4) hx hb d_X_allOnes_4 ?_
  cases hf
  exact ret_l hx hb hr hlocks hK hP hS d_X_allOnes_5
