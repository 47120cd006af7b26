def Desc_isElement (a0 : Int32) : Option (Int32) := if a0 < 0 then some 0 else if 64 ≤ a0 then some 0 else some 1
abbrev rm_Desc_isElement : Room := { frames := 0, cells := 0, slots := 0, locals := 0 }
set_option maxHeartbeats 4000000 in
set_option maxRecDepth 100000 in
theorem c_Desc_isElement (l : Launch) (D : va_G) (K : Nat → ClassId) (a0 : Int32) (r : Int32) (hf : Desc_isElement a0 = some r) : mi l D K y_Desc_isElement ws_Desc_isElement rm_Desc_isElement [.int a0] (fl []) (fl []) r := by
  refine mi_of (cc := b_Desc_isElement) (maxL := 1) (own := "ObsMessages$Descriptors") (by decide) rfl rfl (Nat.le_of_ble_eq_true rfl) ?_
  intro p e s m below meth c A ls hC hP hD hS hl
  obtain ⟨hx, hb, hml, hown, hts, hr, hlocks, hK, hF, hA⟩ := hC
  have hP : va_P D vwCl (fl []) s.heap := hP
  have hl : lv_has ls 1 [(0, .int a0)] := hl
  suffices hW : ∀ (H : Heap) (locs : List Loc), va_P D vwCl (fl []) H → va_S A s.heap H locs → W p l e rm_Desc_isElement s m ([.int a0] : List Value).toArray below meth c H locs 0 0 (Qi below ([.int a0] : List Value).toArray s D K A (fl []) r) (F0 m 0 ls []) from hW s.heap [] hP hS
  clear hP hS
  intro H locs hP hS
  refine lv_iload_n (pc := 0) hx hb d_Desc_isElement_0 rfl (lv_at hl 0 rfl) ?_
  refine lv_if_lt (tgt := 14) (pc := 1) hx hb d_Desc_isElement_1 (by decide) (fun c2 => ?_) (fun c2 => ?_)
  · replace hf := o_t c2 hf
    refine lv_iconst (v := 0) (pc := 14) hx hb d_Desc_isElement_14 (by decide) ?_
    cases hf
    exact ret_z hx hb hr hlocks hK hP hS rfl d_Desc_isElement_15
  · replace hf := o_f c2 hf
    refine lv_iload_n (pc := 4) hx hb d_Desc_isElement_4 rfl (lv_at hl 0 rfl) ?_
    refine lv_bipush (v := 64) (pc := 5) hx hb d_Desc_isElement_5 (by decide) ?_
    refine lv_icmp_ge (tgt := 14) (pc := 7) hx hb d_Desc_isElement_7 (by decide) (fun c1 => ?_) (fun c1 => ?_)
    · replace hf := o_t c1 hf
      refine lv_iconst (v := 0) (pc := 14) hx hb d_Desc_isElement_14 (by decide) ?_
      cases hf
      exact ret_z hx hb hr hlocks hK hP hS rfl d_Desc_isElement_15
    · replace hf := o_f c1 hf
      refine lv_iconst (v := 1) (pc := 10) hx hb d_Desc_isElement_10 (by decide) ?_
      refine lv_goto (tgt := 15) (pc := 11) hx hb d_Desc_isElement_11 (by decide) ?_
      cases hf
      exact ret_z hx hb hr hlocks hK hP hS rfl d_Desc_isElement_15
def Desc_sequenceOf (a0 : Int32) : Option (Int32) := if a0 < 100 then some ((-1)) else if 116 ≤ a0 then some ((-1)) else some (a0 - 100)
abbrev rm_Desc_sequenceOf : Room := { frames := 0, cells := 0, slots := 0, locals := 0 }
set_option maxHeartbeats 4000000 in
set_option maxRecDepth 100000 in
theorem c_Desc_sequenceOf (l : Launch) (D : va_G) (K : Nat → ClassId) (a0 : Int32) (r : Int32) (hf : Desc_sequenceOf a0 = some r) : mi l D K y_Desc_sequenceOf ws_Desc_sequenceOf rm_Desc_sequenceOf [.int a0] (fl []) (fl []) r := by
  refine mi_of (cc := b_Desc_sequenceOf) (maxL := 1) (own := "ObsMessages$Descriptors") (by decide) rfl rfl (Nat.le_of_ble_eq_true rfl) ?_
  intro p e s m below meth c A ls hC hP hD hS hl
  obtain ⟨hx, hb, hml, hown, hts, hr, hlocks, hK, hF, hA⟩ := hC
  have hP : va_P D vwCl (fl []) s.heap := hP
  have hl : lv_has ls 1 [(0, .int a0)] := hl
  suffices hW : ∀ (H : Heap) (locs : List Loc), va_P D vwCl (fl []) H → va_S A s.heap H locs → W p l e rm_Desc_sequenceOf s m ([.int a0] : List Value).toArray below meth c H locs 0 0 (Qi below ([.int a0] : List Value).toArray s D K A (fl []) r) (F0 m 0 ls []) from hW s.heap [] hP hS
  clear hP hS
  intro H locs hP hS
  refine lv_iload_n (pc := 0) hx hb d_Desc_sequenceOf_0 rfl (lv_at hl 0 rfl) ?_
  refine lv_bipush (v := 100) (pc := 1) hx hb d_Desc_sequenceOf_1 (by decide) ?_
  refine lv_icmp_lt (tgt := 19) (pc := 3) hx hb d_Desc_sequenceOf_3 (by decide) (fun c2 => ?_) (fun c2 => ?_)
  · replace hf := o_t c2 hf
    refine lv_iconst (v := (-1)) (pc := 19) hx hb d_Desc_sequenceOf_19 (by decide) ?_
    cases hf
    exact ret_i hx hb hr hlocks hK hP hS d_Desc_sequenceOf_20
  · replace hf := o_f c2 hf
    refine lv_iload_n (pc := 6) hx hb d_Desc_sequenceOf_6 rfl (lv_at hl 0 rfl) ?_
    refine lv_bipush (v := 116) (pc := 7) hx hb d_Desc_sequenceOf_7 (by decide) ?_
    refine lv_icmp_ge (tgt := 19) (pc := 9) hx hb d_Desc_sequenceOf_9 (by decide) (fun c1 => ?_) (fun c1 => ?_)
    · replace hf := o_t c1 hf
      refine lv_iconst (v := (-1)) (pc := 19) hx hb d_Desc_sequenceOf_19 (by decide) ?_
      cases hf
      exact ret_i hx hb hr hlocks hK hP hS d_Desc_sequenceOf_20
    · replace hf := o_f c1 hf
      refine lv_iload_n (pc := 12) hx hb d_Desc_sequenceOf_12 rfl (lv_at hl 0 rfl) ?_
      refine lv_bipush (v := 100) (pc := 13) hx hb d_Desc_sequenceOf_13 (by decide) ?_
      refine lv_isub (pc := 15) hx hb d_Desc_sequenceOf_15 ?_
      refine lv_goto (tgt := 20) (pc := 16) hx hb d_Desc_sequenceOf_16 (by decide) ?_
      cases hf
      exact ret_i hx hb hr hlocks hK hP hS d_Desc_sequenceOf_20
def Desc_isRepeat (a0 : Int32) : Option (Int32) := if a0 < 216 then some 0 else if 343 < a0 then some 0 else some 1
abbrev rm_Desc_isRepeat : Room := { frames := 0, cells := 0, slots := 0, locals := 0 }
set_option maxHeartbeats 4000000 in
set_option maxRecDepth 100000 in
theorem c_Desc_isRepeat (l : Launch) (D : va_G) (K : Nat → ClassId) (a0 : Int32) (r : Int32) (hf : Desc_isRepeat a0 = some r) : mi l D K y_Desc_isRepeat ws_Desc_isRepeat rm_Desc_isRepeat [.int a0] (fl []) (fl []) r := by
  refine mi_of (cc := b_Desc_isRepeat) (maxL := 1) (own := "ObsMessages$Descriptors") (by decide) rfl rfl (Nat.le_of_ble_eq_true rfl) ?_
  intro p e s m below meth c A ls hC hP hD hS hl
  obtain ⟨hx, hb, hml, hown, hts, hr, hlocks, hK, hF, hA⟩ := hC
  have hP : va_P D vwCl (fl []) s.heap := hP
  have hl : lv_has ls 1 [(0, .int a0)] := hl
  suffices hW : ∀ (H : Heap) (locs : List Loc), va_P D vwCl (fl []) H → va_S A s.heap H locs → W p l e rm_Desc_isRepeat s m ([.int a0] : List Value).toArray below meth c H locs 0 0 (Qi below ([.int a0] : List Value).toArray s D K A (fl []) r) (F0 m 0 ls []) from hW s.heap [] hP hS
  clear hP hS
  intro H locs hP hS
  refine lv_iload_n (pc := 0) hx hb d_Desc_isRepeat_0 rfl (lv_at hl 0 rfl) ?_
  refine lv_sipush (v := 216) (pc := 1) hx hb d_Desc_isRepeat_1 (by decide) ?_
  refine lv_icmp_lt (tgt := 18) (pc := 4) hx hb d_Desc_isRepeat_4 (by decide) (fun c2 => ?_) (fun c2 => ?_)
  · replace hf := o_t c2 hf
    refine lv_iconst (v := 0) (pc := 18) hx hb d_Desc_isRepeat_18 (by decide) ?_
    cases hf
    exact ret_z hx hb hr hlocks hK hP hS rfl d_Desc_isRepeat_19
  · replace hf := o_f c2 hf
    refine lv_iload_n (pc := 7) hx hb d_Desc_isRepeat_7 rfl (lv_at hl 0 rfl) ?_
    refine lv_sipush (v := 343) (pc := 8) hx hb d_Desc_isRepeat_8 (by decide) ?_
    refine lv_icmp_gt (tgt := 18) (pc := 11) hx hb d_Desc_isRepeat_11 (by decide) (fun c1 => ?_) (fun c1 => ?_)
    · replace hf := o_t c1 hf
      refine lv_iconst (v := 0) (pc := 18) hx hb d_Desc_isRepeat_18 (by decide) ?_
      cases hf
      exact ret_z hx hb hr hlocks hK hP hS rfl d_Desc_isRepeat_19
    · replace hf := o_f c1 hf
      refine lv_iconst (v := 1) (pc := 14) hx hb d_Desc_isRepeat_14 (by decide) ?_
      refine lv_goto (tgt := 19) (pc := 15) hx hb d_Desc_isRepeat_15 (by decide) ?_
      cases hf
      exact ret_z hx hb hr hlocks hK hP hS rfl d_Desc_isRepeat_19
def Desc_lengthOf (a0 : Int32) : Option (Int32) := some ((a0 - 200) / 16)
abbrev rm_Desc_lengthOf : Room := { frames := 0, cells := 0, slots := 0, locals := 0 }
set_option maxHeartbeats 4000000 in
set_option maxRecDepth 100000 in
theorem c_Desc_lengthOf (l : Launch) (D : va_G) (K : Nat → ClassId) (a0 : Int32) (r : Int32) (hf : Desc_lengthOf a0 = some r) : mi l D K y_Desc_lengthOf ws_Desc_lengthOf rm_Desc_lengthOf [.int a0] (fl []) (fl []) r := by
  refine mi_of (cc := b_Desc_lengthOf) (maxL := 1) (own := "ObsMessages$Descriptors") (by decide) rfl rfl (Nat.le_of_ble_eq_true rfl) ?_
  intro p e s m below meth c A ls hC hP hD hS hl
  obtain ⟨hx, hb, hml, hown, hts, hr, hlocks, hK, hF, hA⟩ := hC
  have hP : va_P D vwCl (fl []) s.heap := hP
  have hl : lv_has ls 1 [(0, .int a0)] := hl
  suffices hW : ∀ (H : Heap) (locs : List Loc), va_P D vwCl (fl []) H → va_S A s.heap H locs → W p l e rm_Desc_lengthOf s m ([.int a0] : List Value).toArray below meth c H locs 0 0 (Qi below ([.int a0] : List Value).toArray s D K A (fl []) r) (F0 m 0 ls []) from hW s.heap [] hP hS
  clear hP hS
  intro H locs hP hS
  refine lv_iload_n (pc := 0) hx hb d_Desc_lengthOf_0 rfl (lv_at hl 0 rfl) ?_
  refine lv_sipush (v := 200) (pc := 1) hx hb d_Desc_lengthOf_1 (by decide) ?_
  refine lv_isub (pc := 4) hx hb d_Desc_lengthOf_4 ?_
  refine lv_bipush (v := 16) (pc := 5) hx hb d_Desc_lengthOf_5 (by decide) ?_
  refine lv_idiv (pc := 7) hx hb d_Desc_lengthOf_7 (by decide) ?_
  cases hf
  exact ret_i hx hb hr hlocks hK hP hS d_Desc_lengthOf_8
def Desc_timesOf (a0 : Int32) : Option (Int32) := some ((a0 - 200) - (a0 - 200) / 16 * 16)
abbrev rm_Desc_timesOf : Room := { frames := 0, cells := 0, slots := 0, locals := 0 }
set_option maxHeartbeats 4000000 in
set_option maxRecDepth 100000 in
theorem c_Desc_timesOf (l : Launch) (D : va_G) (K : Nat → ClassId) (a0 : Int32) (r : Int32) (hf : Desc_timesOf a0 = some r) : mi l D K y_Desc_timesOf ws_Desc_timesOf rm_Desc_timesOf [.int a0] (fl []) (fl []) r := by
  refine mi_of (cc := b_Desc_timesOf) (maxL := 1) (own := "ObsMessages$Descriptors") (by decide) rfl rfl (Nat.le_of_ble_eq_true rfl) ?_
  intro p e s m below meth c A ls hC hP hD hS hl
  obtain ⟨hx, hb, hml, hown, hts, hr, hlocks, hK, hF, hA⟩ := hC
  have hP : va_P D vwCl (fl []) s.heap := hP
  have hl : lv_has ls 1 [(0, .int a0)] := hl
  suffices hW : ∀ (H : Heap) (locs : List Loc), va_P D vwCl (fl []) H → va_S A s.heap H locs → W p l e rm_Desc_timesOf s m ([.int a0] : List Value).toArray below meth c H locs 0 0 (Qi below ([.int a0] : List Value).toArray s D K A (fl []) r) (F0 m 0 ls []) from hW s.heap [] hP hS
  clear hP hS
  intro H locs hP hS
  refine lv_iload_n (pc := 0) hx hb d_Desc_timesOf_0 rfl (lv_at hl 0 rfl) ?_
  refine lv_sipush (v := 200) (pc := 1) hx hb d_Desc_timesOf_1 (by decide) ?_
  refine lv_isub (pc := 4) hx hb d_Desc_timesOf_4 ?_
  refine lv_bipush (v := 16) (pc := 5) hx hb d_Desc_timesOf_5 (by decide) ?_
  refine lv_irem (pc := 7) hx hb d_Desc_timesOf_7 (by decide) ?_
  cases hf
  exact ret_i hx hb hr hlocks hK hP hS d_Desc_timesOf_8
def Desc_operatorOf_j27 (fu : Nat) (kc_2 : Int32 → Option (Int32)) (x0_L2 : Int32) (x1_j27 : Int32) : Option (Int32) := kc_2 (x1_j27 + 1)
def Desc_operatorOf_L2 (fu : Nat) (x0_L2 : Int32) : Nat → Int32 → Option (Int32)
  | 0, _ => none
  | n + 1, x1_L2 => if 4 ≤ x1_L2 then some ((-1)) else o_gd (o_in x1_L2 4) (if x0_L2 < (cE (x1_L2 : Int32).toNatClampNeg) then Desc_operatorOf_j27 fu (fun v0 => Desc_operatorOf_L2 fu x0_L2 n v0) x0_L2 x1_L2 else o_gd (o_in x1_L2 4) (if (cL (x1_L2 : Int32).toNatClampNeg) < x0_L2 then Desc_operatorOf_j27 fu (fun v0 => Desc_operatorOf_L2 fu x0_L2 n v0) x0_L2 x1_L2 else some x1_L2))
def Desc_operatorOf (fu : Nat) (a0 : Int32) : Option (Int32) := Desc_operatorOf_L2 fu a0 fu 0
abbrev rm_Desc_operatorOf : Room := { frames := 0, cells := 0, slots := 0, locals := 0 }
set_option maxHeartbeats 4000000 in
set_option maxRecDepth 100000 in
theorem c_Desc_operatorOf (l : Launch) (D : va_G) (K : Nat → ClassId) (fu : Nat) (a0 : Int32) (r : Int32) (hf : Desc_operatorOf fu a0 = some r) : mi l D K y_Desc_operatorOf ws_Desc_operatorOf rm_Desc_operatorOf [.int a0] (fl []) (fl []) r := by
  refine mi_of (cc := b_Desc_operatorOf) (maxL := 2) (own := "ObsMessages$Descriptors") (by decide) rfl rfl (Nat.le_of_ble_eq_true rfl) ?_
  intro p e s m below meth c A ls hC hP hD hS hl
  obtain ⟨hx, hb, hml, hown, hts, hr, hlocks, hK, hF, hA⟩ := hC
  have hP : va_P D vwCl (fl []) s.heap := hP
  have hl : lv_has ls 2 [(0, .int a0)] := hl
  suffices hW : ∀ (H : Heap) (locs : List Loc), va_P D vwCl (fl []) H → va_S A s.heap H locs → W p l e rm_Desc_operatorOf s m ([.int a0] : List Value).toArray below meth c H locs 0 0 (Qi below ([.int a0] : List Value).toArray s D K A (fl []) r) (F0 m 0 ls []) from hW s.heap [] hP hS
  clear hP hS
  intro H locs hP hS
  refine lv_iconst (v := 0) (pc := 0) hx hb d_Desc_operatorOf_0 (by decide) ?_
  refine lv_istore_n (lv' := [(1, .int 0), (0, .int a0)]) (pc := 1) hx hb d_Desc_operatorOf_1 rfl hl (by decide) rfl (fun ls hl => ?_)
  have L2 : ∀ (x0_L2 : Int32) (n : Nat) (x1_L2 : Int32) (H : Heap) (locs : List Loc) (ls : Array Slot), va_P D vwCl (fl []) H → va_D A (fl []) → va_S A s.heap H locs → lv_has ls 2 [(0, .int x0_L2), (1, .int x1_L2)] → Desc_operatorOf_L2 fu x0_L2 n x1_L2 = some r → W p l e rm_Desc_operatorOf s m ([.int a0] : List Value).toArray below meth c H locs 0 0 (Qi below ([.int a0] : List Value).toArray s D K A (fl []) r) (F0 m 2 ls []) := by
    intro x0_L2 n
    induction n with
    | zero =>
      intro x1_L2 H locs ls hP hD hS hl hf
      exact absurd hf (fun h => nomatch h)
    | succ n_2 ih_2 =>
      intro x1_L2 H locs ls hP hD hS hl hf
      have J27 : ∀ (x1_j27 : Int32) (H : Heap) (locs : List Loc) (ls : Array Slot), va_P D vwCl (fl []) H → va_D A (fl []) → va_S A s.heap H locs → lv_has ls 2 [(0, .int x0_L2), (1, .int x1_j27)] → Desc_operatorOf_j27 fu (fun v0 => Desc_operatorOf_L2 fu x0_L2 n_2 v0) x0_L2 x1_j27 = some r → W p l e rm_Desc_operatorOf s m ([.int a0] : List Value).toArray below meth c H locs 0 0 (Qi below ([.int a0] : List Value).toArray s D K A (fl []) r) (F0 m 27 ls []) := by
        intro x1_j27 H locs ls hP hD hS hl hf
        refine lv_iinc (v := x1_j27 + 1) (lv' := [(1, .int (x1_j27 + 1)), (0, .int x0_L2)]) (pc := 27) hx hb d_Desc_operatorOf_27 hl (k := 1) rfl rfl (by decide) rfl (fun ls hl => ?_)
        refine lv_goto (tgt := 2) (pc := 30) hx hb d_Desc_operatorOf_30 (by decide) ?_
        exact ih_2 (x1_j27 + 1) H locs ls hP hD hS (lv_sub hl [1, 0] rfl) hf
      refine lv_iload_n (pc := 2) hx hb d_Desc_operatorOf_2 rfl (lv_at hl 1 rfl) ?_
      refine lv_iconst (v := 4) (pc := 3) hx hb d_Desc_operatorOf_3 (by decide) ?_
      refine lv_icmp_ge (tgt := 33) (pc := 4) hx hb d_Desc_operatorOf_4 (by decide) (fun c5 => ?_) (fun c5 => ?_)
      · replace hf := o_t c5 hf
        refine lv_iconst (v := (-1)) (pc := 33) hx hb d_Desc_operatorOf_33 (by decide) ?_
        cases hf
        exact ret_i hx hb hr hlocks hK hP hS d_Desc_operatorOf_34
      · replace hf := o_f c5 hf
        refine lv_iload_n (pc := 7) hx hb d_Desc_operatorOf_7 rfl (lv_at hl 0 rfl) ?_
        obtain ⟨-, -, tE, tL, hZE, hTE, hZL, hTL⟩ := id hF
        refine va_gets (pc := 8) hx hb hZE hS hown (hts _ (List.mem_cons_of_mem _ tw_478)) (fun _ h9 => h9) d_Desc_operatorOf_8 ?_
        refine lv_iload_n (pc := 11) hx hb d_Desc_operatorOf_11 rfl (lv_at hl 1 rfl) ?_
        obtain ⟨hi1, hf⟩ := o_gi_e hf
        refine va_ti (pc := 12) hx hb hTE hS hi1 rfl d_Desc_operatorOf_12 ?_
        refine lv_icmp_lt (tgt := 27) (pc := 13) hx hb d_Desc_operatorOf_13 (by decide) (fun c4 => ?_) (fun c4 => ?_)
        · replace hf := o_t c4 hf
          exact J27 x1_L2 H locs ls hP hD hS (lv_sub hl [0, 1] rfl) hf
        · replace hf := o_f c4 hf
          refine lv_iload_n (pc := 16) hx hb d_Desc_operatorOf_16 rfl (lv_at hl 0 rfl) ?_
          obtain ⟨-, -, tE, tL, hZE, hTE, hZL, hTL⟩ := id hF
          refine va_gets (pc := 17) hx hb hZL hS hown (hts _ (List.mem_cons_of_mem _ tw_480)) (fun _ h9 => h9) d_Desc_operatorOf_17 ?_
          refine lv_iload_n (pc := 20) hx hb d_Desc_operatorOf_20 rfl (lv_at hl 1 rfl) ?_
          obtain ⟨hi2, hf⟩ := o_gi_e hf
          refine va_ti (pc := 21) hx hb hTL hS hi2 rfl d_Desc_operatorOf_21 ?_
          refine lv_icmp_gt (tgt := 27) (pc := 22) hx hb d_Desc_operatorOf_22 (by decide) (fun c3 => ?_) (fun c3 => ?_)
          · replace hf := o_t c3 hf
            exact J27 x1_L2 H locs ls hP hD hS (lv_sub hl [0, 1] rfl) hf
          · replace hf := o_f c3 hf
            refine lv_iload_n (pc := 25) hx hb d_Desc_operatorOf_25 rfl (lv_at hl 1 rfl) ?_
            cases hf
            exact ret_i hx hb hr hlocks hK hP hS d_Desc_operatorOf_26
  exact L2 a0 fu 0 H locs ls hP hD hS (lv_sub hl [1, 0] rfl) hf
def Desc_settingOf (a0 : Int32) (a1 : Int32) : Option (Int32) := o_gd (o_in a1 4) (some (a0 - (cE (a1 : Int32).toNatClampNeg)))
abbrev rm_Desc_settingOf : Room := { frames := 0, cells := 0, slots := 0, locals := 0 }
set_option maxHeartbeats 4000000 in
set_option maxRecDepth 100000 in
theorem c_Desc_settingOf (l : Launch) (D : va_G) (K : Nat → ClassId) (a0 : Int32) (a1 : Int32) (r : Int32) (hf : Desc_settingOf a0 a1 = some r) : mi l D K y_Desc_settingOf ws_Desc_settingOf rm_Desc_settingOf [.int a0, .int a1] (fl []) (fl []) r := by
  refine mi_of (cc := b_Desc_settingOf) (maxL := 2) (own := "ObsMessages$Descriptors") (by decide) rfl rfl (Nat.le_of_ble_eq_true rfl) ?_
  intro p e s m below meth c A ls hC hP hD hS hl
  obtain ⟨hx, hb, hml, hown, hts, hr, hlocks, hK, hF, hA⟩ := hC
  have hP : va_P D vwCl (fl []) s.heap := hP
  have hl : lv_has ls 2 [(0, .int a0), (1, .int a1)] := hl
  suffices hW : ∀ (H : Heap) (locs : List Loc), va_P D vwCl (fl []) H → va_S A s.heap H locs → W p l e rm_Desc_settingOf s m ([.int a0, .int a1] : List Value).toArray below meth c H locs 0 0 (Qi below ([.int a0, .int a1] : List Value).toArray s D K A (fl []) r) (F0 m 0 ls []) from hW s.heap [] hP hS
  clear hP hS
  intro H locs hP hS
  refine lv_iload_n (pc := 0) hx hb d_Desc_settingOf_0 rfl (lv_at hl 0 rfl) ?_
  obtain ⟨-, -, tE, tL, hZE, hTE, hZL, hTL⟩ := id hF
  refine va_gets (pc := 1) hx hb hZE hS hown (hts _ (List.mem_cons_of_mem _ tw_478)) (fun _ h9 => h9) d_Desc_settingOf_1 ?_
  refine lv_iload_n (pc := 4) hx hb d_Desc_settingOf_4 rfl (lv_at hl 1 rfl) ?_
  obtain ⟨hi1, hf⟩ := o_gi_e hf
  refine va_ti (pc := 5) hx hb hTE hS hi1 rfl d_Desc_settingOf_5 ?_
  refine lv_isub (pc := 6) hx hb d_Desc_settingOf_6 ?_
  cases hf
  exact ret_i hx hb hr hlocks hK hP hS d_Desc_settingOf_7
def Desc_addedWidth (a0 : Int32) : Option (Int32) := if a0 = 0 then some 0 else some (a0 - 16)
abbrev rm_Desc_addedWidth : Room := { frames := 0, cells := 0, slots := 0, locals := 0 }
set_option maxHeartbeats 4000000 in
set_option maxRecDepth 100000 in
theorem c_Desc_addedWidth (l : Launch) (D : va_G) (K : Nat → ClassId) (a0 : Int32) (r : Int32) (hf : Desc_addedWidth a0 = some r) : mi l D K y_Desc_addedWidth ws_Desc_addedWidth rm_Desc_addedWidth [.int a0] (fl []) (fl []) r := by
  refine mi_of (cc := b_Desc_addedWidth) (maxL := 1) (own := "ObsMessages$Descriptors") (by decide) rfl rfl (Nat.le_of_ble_eq_true rfl) ?_
  intro p e s m below meth c A ls hC hP hD hS hl
  obtain ⟨hx, hb, hml, hown, hts, hr, hlocks, hK, hF, hA⟩ := hC
  have hP : va_P D vwCl (fl []) s.heap := hP
  have hl : lv_has ls 1 [(0, .int a0)] := hl
  suffices hW : ∀ (H : Heap) (locs : List Loc), va_P D vwCl (fl []) H → va_S A s.heap H locs → W p l e rm_Desc_addedWidth s m ([.int a0] : List Value).toArray below meth c H locs 0 0 (Qi below ([.int a0] : List Value).toArray s D K A (fl []) r) (F0 m 0 ls []) from hW s.heap [] hP hS
  clear hP hS
  intro H locs hP hS
  refine lv_iload_n (pc := 0) hx hb d_Desc_addedWidth_0 rfl (lv_at hl 0 rfl) ?_
  refine lv_if_ne (tgt := 8) (pc := 1) hx hb d_Desc_addedWidth_1 (by decide) (fun c1 => ?_) (fun c1 => ?_)
  · replace hf := o_f c1 hf
    refine lv_iload_n (pc := 8) hx hb d_Desc_addedWidth_8 rfl (lv_at hl 0 rfl) ?_
    refine lv_bipush (v := 16) (pc := 9) hx hb d_Desc_addedWidth_9 (by decide) ?_
    refine lv_isub (pc := 11) hx hb d_Desc_addedWidth_11 ?_
    cases hf
    exact ret_i hx hb hr hlocks hK hP hS d_Desc_addedWidth_12
  · replace hf := o_t c1 hf
    refine lv_iconst (v := 0) (pc := 4) hx hb d_Desc_addedWidth_4 (by decide) ?_
    refine lv_goto (tgt := 12) (pc := 5) hx hb d_Desc_addedWidth_5 (by decide) ?_
    cases hf
    exact ret_i hx hb hr hlocks hK hP hS d_Desc_addedWidth_12
def Desc_addedScale (a0 : Int32) : Option (Int32) := if a0 = 0 then some 0 else some (a0 - 8)
abbrev rm_Desc_addedScale : Room := { frames := 0, cells := 0, slots := 0, locals := 0 }
set_option maxHeartbeats 4000000 in
set_option maxRecDepth 100000 in
theorem c_Desc_addedScale (l : Launch) (D : va_G) (K : Nat → ClassId) (a0 : Int32) (r : Int32) (hf : Desc_addedScale a0 = some r) : mi l D K y_Desc_addedScale ws_Desc_addedScale rm_Desc_addedScale [.int a0] (fl []) (fl []) r := by
  refine mi_of (cc := b_Desc_addedScale) (maxL := 1) (own := "ObsMessages$Descriptors") (by decide) rfl rfl (Nat.le_of_ble_eq_true rfl) ?_
  intro p e s m below meth c A ls hC hP hD hS hl
  obtain ⟨hx, hb, hml, hown, hts, hr, hlocks, hK, hF, hA⟩ := hC
  have hP : va_P D vwCl (fl []) s.heap := hP
  have hl : lv_has ls 1 [(0, .int a0)] := hl
  suffices hW : ∀ (H : Heap) (locs : List Loc), va_P D vwCl (fl []) H → va_S A s.heap H locs → W p l e rm_Desc_addedScale s m ([.int a0] : List Value).toArray below meth c H locs 0 0 (Qi below ([.int a0] : List Value).toArray s D K A (fl []) r) (F0 m 0 ls []) from hW s.heap [] hP hS
  clear hP hS
  intro H locs hP hS
  refine lv_iload_n (pc := 0) hx hb d_Desc_addedScale_0 rfl (lv_at hl 0 rfl) ?_
  refine lv_if_ne (tgt := 8) (pc := 1) hx hb d_Desc_addedScale_1 (by decide) (fun c1 => ?_) (fun c1 => ?_)
  · replace hf := o_f c1 hf
    refine lv_iload_n (pc := 8) hx hb d_Desc_addedScale_8 rfl (lv_at hl 0 rfl) ?_
    refine lv_bipush (v := 8) (pc := 9) hx hb d_Desc_addedScale_9 (by decide) ?_
    refine lv_isub (pc := 11) hx hb d_Desc_addedScale_11 ?_
    cases hf
    exact ret_i hx hb hr hlocks hK hP hS d_Desc_addedScale_12
  · replace hf := o_t c1 hf
    refine lv_iconst (v := 0) (pc := 4) hx hb d_Desc_addedScale_4 (by decide) ?_
    refine lv_goto (tgt := 12) (pc := 5) hx hb d_Desc_addedScale_5 (by decide) ?_
    cases hf
    exact ret_i hx hb hr hlocks hK hP hS d_Desc_addedScale_12
def Desc_bitsOf (a0 : Int32) : Option (Int32) := if a0 ≤ 500 then some ((-1)) else if 516 < a0 then some ((-1)) else some (a0 - 500)
abbrev rm_Desc_bitsOf : Room := { frames := 0, cells := 0, slots := 0, locals := 0 }
set_option maxHeartbeats 4000000 in
set_option maxRecDepth 100000 in
theorem c_Desc_bitsOf (l : Launch) (D : va_G) (K : Nat → ClassId) (a0 : Int32) (r : Int32) (hf : Desc_bitsOf a0 = some r) : mi l D K y_Desc_bitsOf ws_Desc_bitsOf rm_Desc_bitsOf [.int a0] (fl []) (fl []) r := by
  refine mi_of (cc := b_Desc_bitsOf) (maxL := 1) (own := "ObsMessages$Descriptors") (by decide) rfl rfl (Nat.le_of_ble_eq_true rfl) ?_
  intro p e s m below meth c A ls hC hP hD hS hl
  obtain ⟨hx, hb, hml, hown, hts, hr, hlocks, hK, hF, hA⟩ := hC
  have hP : va_P D vwCl (fl []) s.heap := hP
  have hl : lv_has ls 1 [(0, .int a0)] := hl
  suffices hW : ∀ (H : Heap) (locs : List Loc), va_P D vwCl (fl []) H → va_S A s.heap H locs → W p l e rm_Desc_bitsOf s m ([.int a0] : List Value).toArray below meth c H locs 0 0 (Qi below ([.int a0] : List Value).toArray s D K A (fl []) r) (F0 m 0 ls []) from hW s.heap [] hP hS
  clear hP hS
  intro H locs hP hS
  refine lv_iload_n (pc := 0) hx hb d_Desc_bitsOf_0 rfl (lv_at hl 0 rfl) ?_
  refine lv_sipush (v := 500) (pc := 1) hx hb d_Desc_bitsOf_1 (by decide) ?_
  refine lv_icmp_le (tgt := 22) (pc := 4) hx hb d_Desc_bitsOf_4 (by decide) (fun c2 => ?_) (fun c2 => ?_)
  · replace hf := o_t c2 hf
    refine lv_iconst (v := (-1)) (pc := 22) hx hb d_Desc_bitsOf_22 (by decide) ?_
    cases hf
    exact ret_i hx hb hr hlocks hK hP hS d_Desc_bitsOf_23
  · replace hf := o_f c2 hf
    refine lv_iload_n (pc := 7) hx hb d_Desc_bitsOf_7 rfl (lv_at hl 0 rfl) ?_
    refine lv_sipush (v := 516) (pc := 8) hx hb d_Desc_bitsOf_8 (by decide) ?_
    refine lv_icmp_gt (tgt := 22) (pc := 11) hx hb d_Desc_bitsOf_11 (by decide) (fun c1 => ?_) (fun c1 => ?_)
    · replace hf := o_t c1 hf
      refine lv_iconst (v := (-1)) (pc := 22) hx hb d_Desc_bitsOf_22 (by decide) ?_
      cases hf
      exact ret_i hx hb hr hlocks hK hP hS d_Desc_bitsOf_23
    · replace hf := o_f c1 hf
      refine lv_iload_n (pc := 14) hx hb d_Desc_bitsOf_14 rfl (lv_at hl 0 rfl) ?_
      refine lv_sipush (v := 500) (pc := 15) hx hb d_Desc_bitsOf_15 (by decide) ?_
      refine lv_isub (pc := 18) hx hb d_Desc_bitsOf_18 ?_
      refine lv_goto (tgt := 23) (pc := 19) hx hb d_Desc_bitsOf_19 (by decide) ?_
      cases hf
      exact ret_i hx hb hr hlocks hK hP hS d_Desc_bitsOf_23
def Desc_isMark (a0 : Int32) : Option (Int32) := if a0 = 520 then some 1 else some 0
abbrev rm_Desc_isMark : Room := { frames := 0, cells := 0, slots := 0, locals := 0 }
set_option maxHeartbeats 4000000 in
set_option maxRecDepth 100000 in
theorem c_Desc_isMark (l : Launch) (D : va_G) (K : Nat → ClassId) (a0 : Int32) (r : Int32) (hf : Desc_isMark a0 = some r) : mi l D K y_Desc_isMark ws_Desc_isMark rm_Desc_isMark [.int a0] (fl []) (fl []) r := by
  refine mi_of (cc := b_Desc_isMark) (maxL := 1) (own := "ObsMessages$Descriptors") (by decide) rfl rfl (Nat.le_of_ble_eq_true rfl) ?_
  intro p e s m below meth c A ls hC hP hD hS hl
  obtain ⟨hx, hb, hml, hown, hts, hr, hlocks, hK, hF, hA⟩ := hC
  have hP : va_P D vwCl (fl []) s.heap := hP
  have hl : lv_has ls 1 [(0, .int a0)] := hl
  suffices hW : ∀ (H : Heap) (locs : List Loc), va_P D vwCl (fl []) H → va_S A s.heap H locs → W p l e rm_Desc_isMark s m ([.int a0] : List Value).toArray below meth c H locs 0 0 (Qi below ([.int a0] : List Value).toArray s D K A (fl []) r) (F0 m 0 ls []) from hW s.heap [] hP hS
  clear hP hS
  intro H locs hP hS
  refine lv_iload_n (pc := 0) hx hb d_Desc_isMark_0 rfl (lv_at hl 0 rfl) ?_
  refine lv_sipush (v := 520) (pc := 1) hx hb d_Desc_isMark_1 (by decide) ?_
  refine lv_icmp_ne (tgt := 11) (pc := 4) hx hb d_Desc_isMark_4 (by decide) (fun c1 => ?_) (fun c1 => ?_)
  · replace hf := o_f c1 hf
    refine lv_iconst (v := 0) (pc := 11) hx hb d_Desc_isMark_11 (by decide) ?_
    cases hf
    exact ret_z hx hb hr hlocks hK hP hS rfl d_Desc_isMark_12
  · replace hf := o_t c1 hf
    refine lv_iconst (v := 1) (pc := 7) hx hb d_Desc_isMark_7 (by decide) ?_
    refine lv_goto (tgt := 12) (pc := 8) hx hb d_Desc_isMark_8 (by decide) ?_
    cases hf
    exact ret_z hx hb hr hlocks hK hP hS rfl d_Desc_isMark_12
def Desc_isKnown (fu : Nat) (a0 : Int32) : Option (Int32) := o_bd (Desc_isElement a0) fun q1 => (if q1 = 0 then o_bd (Desc_sequenceOf a0) fun q2 => (if q2 = ((-1)) then o_bd (Desc_isRepeat a0) fun q3 => (if q3 = 0 then o_bd (Desc_operatorOf fu a0) fun q4 => (if q4 = ((-1)) then o_bd (Desc_bitsOf a0) fun q5 => (if q5 = ((-1)) then o_bd (Desc_isMark a0) fun q6 => (if q6 = 0 then some 0 else some 1) else some 1) else some 1) else some 1) else some 1) else some 1)
abbrev rm_Desc_isKnown : Room := { frames := 1, cells := 0, slots := 0, locals := 21 }
set_option maxHeartbeats 4000000 in
set_option maxRecDepth 100000 in
theorem c_Desc_isKnown (l : Launch) (D : va_G) (K : Nat → ClassId) (fu : Nat) (a0 : Int32) (r : Int32) (hf : Desc_isKnown fu a0 = some r) : mi l D K y_Desc_isKnown ws_Desc_isKnown rm_Desc_isKnown [.int a0] (fl []) (fl []) r := by
  refine mi_of (cc := b_Desc_isKnown) (maxL := 1) (own := "ObsMessages$Descriptors") (by decide) rfl rfl (Nat.le_of_ble_eq_true rfl) ?_
  intro p e s m below meth c A ls hC hP hD hS hl
  obtain ⟨hx, hb, hml, hown, hts, hr, hlocks, hK, hF, hA⟩ := hC
  have hP : va_P D vwCl (fl []) s.heap := hP
  have hl : lv_has ls 1 [(0, .int a0)] := hl
  suffices hW : ∀ (H : Heap) (locs : List Loc), va_P D vwCl (fl []) H → va_S A s.heap H locs → W p l e rm_Desc_isKnown s m ([.int a0] : List Value).toArray below meth c H locs 0 0 (Qi below ([.int a0] : List Value).toArray s D K A (fl []) r) (F0 m 0 ls []) from hW s.heap [] hP hS
  clear hP hS
  intro H locs hP hS
  refine lv_iload_n (pc := 0) hx hb d_Desc_isKnown_0 rfl (lv_at hl 0 rfl) ?_
  obtain ⟨q1, hq1, hf⟩ := o_bd_e hf
  refine fi_i (pc := 1) (va_runS (As := [.int a0]) (rest := []) ⟨hx, hb, hml, hown, hts⟩ ((c_Desc_isElement l D K a0 q1 hq1) _) (cwS 1 hts (gS tw_776 tw_422 tw_13 tw_423) rfl rfl rfl (by decide +kernel) ⟨by decide, by decide⟩) ⟨mPre_blind, (mPre_fl hK hF hA hP hD hS [] rfl rfl)⟩ rfl rfl hl.1 rfl (lv_room (Nat.le_of_ble_eq_true rfl)) d_Desc_isKnown_1 ⟨Nat.zero_le _, Nat.zero_le _⟩) hA hP hD hS [] rfl rfl (fun H locs hP hD hS => ?_)
  have hP : va_P D vwCl (fl []) H := hP
  have hD : va_D A (fl []) := hD
  refine lv_if_ne (tgt := 45) (pc := 4) hx hb d_Desc_isKnown_4 (by decide) (fun c12 => ?_) (fun c12 => ?_)
  · replace hf := o_f c12 hf
    refine lv_iconst (v := 1) (pc := 45) hx hb d_Desc_isKnown_45 (by decide) ?_
    refine lv_goto (tgt := 50) (pc := 46) hx hb d_Desc_isKnown_46 (by decide) ?_
    cases hf
    exact ret_z hx hb hr hlocks hK hP hS rfl d_Desc_isKnown_50
  · replace hf := o_t c12 hf
    refine lv_iload_n (pc := 7) hx hb d_Desc_isKnown_7 rfl (lv_at hl 0 rfl) ?_
    obtain ⟨q2, hq2, hf⟩ := o_bd_e hf
    refine fi_i (pc := 8) (va_runS (As := [.int a0]) (rest := []) ⟨hx, hb, hml, hown, hts⟩ ((c_Desc_sequenceOf l D K a0 q2 hq2) _) (cwS 1 hts (gS tw_777 tw_504 tw_13 tw_505) rfl rfl rfl (by decide +kernel) ⟨by decide, by decide⟩) ⟨mPre_blind, (mPre_fl hK hF hA hP hD hS [] rfl rfl)⟩ rfl rfl hl.1 rfl (lv_room (Nat.le_of_ble_eq_true rfl)) d_Desc_isKnown_8 ⟨Nat.zero_le _, Nat.zero_le _⟩) hA hP hD hS [] rfl rfl (fun H locs hP hD hS => ?_)
    have hP : va_P D vwCl (fl []) H := hP
    have hD : va_D A (fl []) := hD
    refine lv_iconst (v := (-1)) (pc := 11) hx hb d_Desc_isKnown_11 (by decide) ?_
    refine lv_icmp_ne (tgt := 45) (pc := 12) hx hb d_Desc_isKnown_12 (by decide) (fun c11 => ?_) (fun c11 => ?_)
    · replace hf := o_f c11 hf
      refine lv_iconst (v := 1) (pc := 45) hx hb d_Desc_isKnown_45 (by decide) ?_
      refine lv_goto (tgt := 50) (pc := 46) hx hb d_Desc_isKnown_46 (by decide) ?_
      cases hf
      exact ret_z hx hb hr hlocks hK hP hS rfl d_Desc_isKnown_50
    · replace hf := o_t c11 hf
      refine lv_iload_n (pc := 15) hx hb d_Desc_isKnown_15 rfl (lv_at hl 0 rfl) ?_
      obtain ⟨q3, hq3, hf⟩ := o_bd_e hf
      refine fi_i (pc := 16) (va_runS (As := [.int a0]) (rest := []) ⟨hx, hb, hml, hown, hts⟩ ((c_Desc_isRepeat l D K a0 q3 hq3) _) (cwS 1 hts (gS tw_778 tw_516 tw_13 tw_517) rfl rfl rfl (by decide +kernel) ⟨by decide, by decide⟩) ⟨mPre_blind, (mPre_fl hK hF hA hP hD hS [] rfl rfl)⟩ rfl rfl hl.1 rfl (lv_room (Nat.le_of_ble_eq_true rfl)) d_Desc_isKnown_16 ⟨Nat.zero_le _, Nat.zero_le _⟩) hA hP hD hS [] rfl rfl (fun H locs hP hD hS => ?_)
      have hP : va_P D vwCl (fl []) H := hP
      have hD : va_D A (fl []) := hD
      refine lv_if_ne (tgt := 45) (pc := 19) hx hb d_Desc_isKnown_19 (by decide) (fun c10 => ?_) (fun c10 => ?_)
      · replace hf := o_f c10 hf
        refine lv_iconst (v := 1) (pc := 45) hx hb d_Desc_isKnown_45 (by decide) ?_
        refine lv_goto (tgt := 50) (pc := 46) hx hb d_Desc_isKnown_46 (by decide) ?_
        cases hf
        exact ret_z hx hb hr hlocks hK hP hS rfl d_Desc_isKnown_50
      · replace hf := o_t c10 hf
        refine lv_iload_n (pc := 22) hx hb d_Desc_isKnown_22 rfl (lv_at hl 0 rfl) ?_
        obtain ⟨q4, hq4, hf⟩ := o_bd_e hf
        refine fi_i (pc := 23) (va_runS (As := [.int a0]) (rest := []) ⟨hx, hb, hml, hown, hts⟩ ((c_Desc_operatorOf l D K fu a0 q4 hq4) _) (cwS 1 hts (gS tw_779 tw_476 tw_13 tw_477) rfl rfl rfl (by decide +kernel) ⟨by decide, by decide⟩) ⟨mPre_blind, (mPre_fl hK hF hA hP hD hS [] rfl rfl)⟩ rfl rfl hl.1 rfl (lv_room (Nat.le_of_ble_eq_true rfl)) d_Desc_isKnown_23 ⟨Nat.zero_le _, Nat.zero_le _⟩) hA hP hD hS [] rfl rfl (fun H locs hP hD hS => ?_)
        have hP : va_P D vwCl (fl []) H := hP
        have hD : va_D A (fl []) := hD
        refine lv_iconst (v := (-1)) (pc := 26) hx hb d_Desc_isKnown_26 (by decide) ?_
        refine lv_icmp_ne (tgt := 45) (pc := 27) hx hb d_Desc_isKnown_27 (by decide) (fun c9 => ?_) (fun c9 => ?_)
        · replace hf := o_f c9 hf
          refine lv_iconst (v := 1) (pc := 45) hx hb d_Desc_isKnown_45 (by decide) ?_
          refine lv_goto (tgt := 50) (pc := 46) hx hb d_Desc_isKnown_46 (by decide) ?_
          cases hf
          exact ret_z hx hb hr hlocks hK hP hS rfl d_Desc_isKnown_50
        · replace hf := o_t c9 hf
          refine lv_iload_n (pc := 30) hx hb d_Desc_isKnown_30 rfl (lv_at hl 0 rfl) ?_
          obtain ⟨q5, hq5, hf⟩ := o_bd_e hf
          refine fi_i (pc := 31) (va_runS (As := [.int a0]) (rest := []) ⟨hx, hb, hml, hown, hts⟩ ((c_Desc_bitsOf l D K a0 q5 hq5) _) (cwS 1 hts (gS tw_780 tw_613 tw_13 tw_614) rfl rfl rfl (by decide +kernel) ⟨by decide, by decide⟩) ⟨mPre_blind, (mPre_fl hK hF hA hP hD hS [] rfl rfl)⟩ rfl rfl hl.1 rfl (lv_room (Nat.le_of_ble_eq_true rfl)) d_Desc_isKnown_31 ⟨Nat.zero_le _, Nat.zero_le _⟩) hA hP hD hS [] rfl rfl (fun H locs hP hD hS => ?_)
          have hP : va_P D vwCl (fl []) H := hP
          have hD : va_D A (fl []) := hD
          refine lv_iconst (v := (-1)) (pc := 34) hx hb d_Desc_isKnown_34 (by decide) ?_
          refine lv_icmp_ne (tgt := 45) (pc := 35) hx hb d_Desc_isKnown_35 (by decide) (fun c8 => ?_) (fun c8 => ?_)
          · replace hf := o_f c8 hf
            refine lv_iconst (v := 1) (pc := 45) hx hb d_Desc_isKnown_45 (by decide) ?_
            refine lv_goto (tgt := 50) (pc := 46) hx hb d_Desc_isKnown_46 (by decide) ?_
            cases hf
            exact ret_z hx hb hr hlocks hK hP hS rfl d_Desc_isKnown_50
          · replace hf := o_t c8 hf
            refine lv_iload_n (pc := 38) hx hb d_Desc_isKnown_38 rfl (lv_at hl 0 rfl) ?_
            obtain ⟨q6, hq6, hf⟩ := o_bd_e hf
            refine fi_i (pc := 39) (va_runS (As := [.int a0]) (rest := []) ⟨hx, hb, hml, hown, hts⟩ ((c_Desc_isMark l D K a0 q6 hq6) _) (cwS 1 hts (gS tw_781 tw_620 tw_13 tw_621) rfl rfl rfl (by decide +kernel) ⟨by decide, by decide⟩) ⟨mPre_blind, (mPre_fl hK hF hA hP hD hS [] rfl rfl)⟩ rfl rfl hl.1 rfl (lv_room (Nat.le_of_ble_eq_true rfl)) d_Desc_isKnown_39 ⟨Nat.zero_le _, Nat.zero_le _⟩) hA hP hD hS [] rfl rfl (fun H locs hP hD hS => ?_)
            have hP : va_P D vwCl (fl []) H := hP
            have hD : va_D A (fl []) := hD
            refine lv_if_eq (tgt := 49) (pc := 42) hx hb d_Desc_isKnown_42 (by decide) (fun c7 => ?_) (fun c7 => ?_)
            · replace hf := o_t c7 hf
              refine lv_iconst (v := 0) (pc := 49) hx hb d_Desc_isKnown_49 (by decide) ?_
              cases hf
              exact ret_z hx hb hr hlocks hK hP hS rfl d_Desc_isKnown_50
            · replace hf := o_f c7 hf
              refine lv_iconst (v := 1) (pc := 45) hx hb d_Desc_isKnown_45 (by decide) ?_
              refine lv_goto (tgt := 50) (pc := 46) hx hb d_Desc_isKnown_46 (by decide) ?_
              cases hf
              exact ret_z hx hb hr hlocks hK hP hS rfl d_Desc_isKnown_50
def Tab_entryOf (a0 : Int32) (a1 : Int32) : Option (Int32) := if a0 < ((-1)) then some ((-1)) else if 4 ≤ a0 then some ((-1)) else o_bd (Desc_isElement a1) fun q1 => (if q1 = 0 then some ((-1)) else if a0 = ((-1)) then o_bd (Tab_entryAt 4 a1) fun q3 => (some q3) else o_bd (Tab_entryAt a0 a1) fun q2 => (some q2))
abbrev rm_Tab_entryOf : Room := { frames := 1, cells := 0, slots := 0, locals := 21 }
set_option maxHeartbeats 4000000 in
set_option maxRecDepth 100000 in
theorem c_Tab_entryOf (l : Launch) (D : va_G) (K : Nat → ClassId) (a0 : Int32) (a1 : Int32) (r : Int32) (hf : Tab_entryOf a0 a1 = some r) : mi l D K y_Tab_entryOf ws_Tab_entryOf rm_Tab_entryOf [.int a0, .int a1] (fl []) (fl []) r := by
  refine mi_of (cc := b_Tab_entryOf) (maxL := 2) (own := "ObsMessages$Tables") (by decide) rfl rfl (Nat.le_of_ble_eq_true rfl) ?_
  intro p e s m below meth c A ls hC hP hD hS hl
  obtain ⟨hx, hb, hml, hown, hts, hr, hlocks, hK, hF, hA⟩ := hC
  have hP : va_P D vwCl (fl []) s.heap := hP
  have hl : lv_has ls 2 [(0, .int a0), (1, .int a1)] := hl
  suffices hW : ∀ (H : Heap) (locs : List Loc), va_P D vwCl (fl []) H → va_S A s.heap H locs → W p l e rm_Tab_entryOf s m ([.int a0, .int a1] : List Value).toArray below meth c H locs 0 0 (Qi below ([.int a0, .int a1] : List Value).toArray s D K A (fl []) r) (F0 m 0 ls []) from hW s.heap [] hP hS
  clear hP hS
  intro H locs hP hS
  refine lv_iload_n (pc := 0) hx hb d_Tab_entryOf_0 rfl (lv_at hl 0 rfl) ?_
  refine lv_iconst (v := (-1)) (pc := 1) hx hb d_Tab_entryOf_1 (by decide) ?_
  refine lv_icmp_lt (tgt := 17) (pc := 2) hx hb d_Tab_entryOf_2 (by decide) (fun c7 => ?_) (fun c7 => ?_)
  · replace hf := o_t c7 hf
    refine lv_iconst (v := (-1)) (pc := 17) hx hb d_Tab_entryOf_17 (by decide) ?_
    cases hf
    exact ret_i hx hb hr hlocks hK hP hS d_Tab_entryOf_18
  · replace hf := o_f c7 hf
    refine lv_iload_n (pc := 5) hx hb d_Tab_entryOf_5 rfl (lv_at hl 0 rfl) ?_
    refine lv_iconst (v := 4) (pc := 6) hx hb d_Tab_entryOf_6 (by decide) ?_
    refine lv_icmp_ge (tgt := 17) (pc := 7) hx hb d_Tab_entryOf_7 (by decide) (fun c6 => ?_) (fun c6 => ?_)
    · replace hf := o_t c6 hf
      refine lv_iconst (v := (-1)) (pc := 17) hx hb d_Tab_entryOf_17 (by decide) ?_
      cases hf
      exact ret_i hx hb hr hlocks hK hP hS d_Tab_entryOf_18
    · replace hf := o_f c6 hf
      refine lv_iload_n (pc := 10) hx hb d_Tab_entryOf_10 rfl (lv_at hl 1 rfl) ?_
      obtain ⟨q1, hq1, hf⟩ := o_bd_e hf
      refine fi_i (pc := 11) (va_runS (As := [.int a1]) (rest := []) ⟨hx, hb, hml, hown, hts⟩ ((c_Desc_isElement l D K a1 q1 hq1) _) (va_cwS 1 hts (gT tw_421 tw_422 tw_13 tw_423) rfl rfl rfl (by decide +kernel) ⟨by decide, by decide⟩) ⟨mPre_blind, (mPre_fl hK hF hA hP hD hS [] rfl rfl)⟩ rfl rfl hl.1 rfl (lv_room (Nat.le_of_ble_eq_true rfl)) d_Tab_entryOf_11 ⟨Nat.zero_le _, Nat.zero_le _⟩) hA hP hD hS [] rfl rfl (fun H locs hP hD hS => ?_)
      have hP : va_P D vwCl (fl []) H := hP
      have hD : va_D A (fl []) := hD
      refine lv_if_ne (tgt := 19) (pc := 14) hx hb d_Tab_entryOf_14 (by decide) (fun c5 => ?_) (fun c5 => ?_)
      · replace hf := o_f c5 hf
        refine lv_iload_n (pc := 19) hx hb d_Tab_entryOf_19 rfl (lv_at hl 0 rfl) ?_
        refine lv_iconst (v := (-1)) (pc := 20) hx hb d_Tab_entryOf_20 (by decide) ?_
        refine lv_icmp_ne (tgt := 28) (pc := 21) hx hb d_Tab_entryOf_21 (by decide) (fun c4 => ?_) (fun c4 => ?_)
        · replace hf := o_f c4 hf
          refine lv_iload_n (pc := 28) hx hb d_Tab_entryOf_28 rfl (lv_at hl 0 rfl) ?_
          refine lv_iload_n (pc := 29) hx hb d_Tab_entryOf_29 rfl (lv_at hl 1 rfl) ?_
          obtain ⟨q2, hq2, hf⟩ := o_bd_e hf
          refine fi_i (pc := 30) (va_runS (As := [.int a0, .int a1]) (rest := []) ⟨hx, hb, hml, hown, hts⟩ ((c_Tab_entryAt l D K a0 a1 q2 hq2) _) (cwS 2 hts (gS tw_424 tw_425 tw_2 tw_426) rfl rfl rfl (by decide +kernel) ⟨by decide, by decide⟩) ⟨mPre_blind, (mPre_fl hK hF hA hP hD hS [] rfl rfl)⟩ rfl rfl hl.1 rfl (lv_room (Nat.le_of_ble_eq_true rfl)) d_Tab_entryOf_30 ⟨Nat.zero_le _, Nat.zero_le _⟩) hA hP hD hS [] rfl rfl (fun H locs hP hD hS => ?_)
          have hP : va_P D vwCl (fl []) H := hP
          have hD : va_D A (fl []) := hD
          cases hf
          exact ret_i hx hb hr hlocks hK hP hS d_Tab_entryOf_33
        · replace hf := o_t c4 hf
          refine lv_iconst (v := 4) (pc := 24) hx hb d_Tab_entryOf_24 (by decide) ?_
          refine lv_goto (tgt := 29) (pc := 25) hx hb d_Tab_entryOf_25 (by decide) ?_
          refine lv_iload_n (pc := 29) hx hb d_Tab_entryOf_29 rfl (lv_at hl 1 rfl) ?_
          obtain ⟨q3, hq3, hf⟩ := o_bd_e hf
          refine fi_i (pc := 30) (va_runS (As := [.int 4, .int a1]) (rest := []) ⟨hx, hb, hml, hown, hts⟩ ((c_Tab_entryAt l D K 4 a1 q3 hq3) _) (cwS 2 hts (gS tw_424 tw_425 tw_2 tw_426) rfl rfl rfl (by decide +kernel) ⟨by decide, by decide⟩) ⟨mPre_blind, (mPre_fl hK hF hA hP hD hS [] rfl rfl)⟩ rfl rfl hl.1 rfl (lv_room (Nat.le_of_ble_eq_true rfl)) d_Tab_entryOf_30 ⟨Nat.zero_le _, Nat.zero_le _⟩) hA hP hD hS [] rfl rfl (fun H locs hP hD hS => ?_)
          have hP : va_P D vwCl (fl []) H := hP
          have hD : va_D A (fl []) := hD
          cases hf
          exact ret_i hx hb hr hlocks hK hP hS d_Tab_entryOf_33
      · replace hf := o_t c5 hf
        refine lv_iconst (v := (-1)) (pc := 17) hx hb d_Tab_entryOf_17 (by decide) ?_
        cases hf
        exact ret_i hx hb hr hlocks hK hP hS d_Tab_entryOf_18
