theorem sub0 {a : Int32} (h0 : a < 0 ∨ 8 ≤ a) : X_isSubset a = some 0 ∧ Mod_isSubset a = some 0 := by
  have e1 : X_isSubset a = some 0 := by
    unfold X_isSubset
    rcases h0 with h | h
    · rw [if_pos h]
    · by_cases h2 : a < 0
      · rw [if_pos h2]
      · rw [if_neg h2, if_pos h]
  exact ⟨e1, e1⟩
theorem of_map {α : Type} {x : Option α} {β : Type} {f : α → β} {y : β} (h : x.map f = some y) : ∃ q, x = some q ∧ f q = y := by
  cases x with
  | none => cases h
  | some q => exact ⟨q, rfl, Option.some.inj h⟩
set_option maxRecDepth 100000 in
theorem ask_k : ∀ i : Nat, i < 8 → ((Mod_ask FUEL (ST_Mthere st0) (ST_Mscales st0) (ST_Mreferences st0) (ST_Mwidths st0) (ST_Mlists st0) (ST_Mlengths st0) (ST_Mvalues st0) (ST_Mbits st0) (Int32.ofNat i) (Mo_set_thrown (0, 3, 0, -1, 0, 0, 0, 0, 0, 0, 0, 0, 0, 0, 0, 0, 0, 0, 0, 0, 0, -1, 0) 0) (ST_Mread st0) (ST_Mlist st0) (ST_Mnext st0) (ST_Mend st0) (ST_Mbegin st0) (ST_Mleft st0) (ST_Mturn st0) (ST_MfoundOps st0) (ST_Mops st0) (ST_Mkind st0) (ST_Mcode st0) (ST_Mwidth st0) (ST_Mscale st0) (ST_Mlink st0) (ST_Mrepeat st0) (ST_Mbase st0) (ST_MelementAt st0) (ST_MpointAt st0))).map (·.1) = some 0 := by decide +kernel
set_option maxRecDepth 100000 in
theorem ask_n : ((Mod_ask FUEL (ST_Mthere st0) (ST_Mscales st0) (ST_Mreferences st0) (ST_Mwidths st0) (ST_Mlists st0) (ST_Mlengths st0) (ST_Mvalues st0) (ST_Mbits st0) (-1) (Mo_set_thrown (0, 3, 0, -1, 0, 0, 0, 0, 0, 0, 0, 0, 0, 0, 0, 0, 0, 0, 0, 0, 0, -1, 0) 0) (ST_Mread st0) (ST_Mlist st0) (ST_Mnext st0) (ST_Mend st0) (ST_Mbegin st0) (ST_Mleft st0) (ST_Mturn st0) (ST_MfoundOps st0) (ST_Mops st0) (ST_Mkind st0) (ST_Mcode st0) (ST_Mwidth st0) (ST_Mscale st0) (ST_Mlink st0) (ST_Mrepeat st0) (ST_Mbase st0) (ST_MelementAt st0) (ST_MpointAt st0))).map (·.1) = some 0 := by decide +kernel
set_option maxHeartbeats 4000000 in
set_option maxRecDepth 100000 in
theorem ask0 (a0 : Int32) : ∃ q, Mod_ask FUEL (ST_Mthere st0) (ST_Mscales st0) (ST_Mreferences st0) (ST_Mwidths st0) (ST_Mlists st0) (ST_Mlengths st0) (ST_Mvalues st0) (ST_Mbits st0) a0 (Mo_set_thrown (0, 3, 0, -1, 0, 0, 0, 0, 0, 0, 0, 0, 0, 0, 0, 0, 0, 0, 0, 0, 0, -1, 0) 0) (ST_Mread st0) (ST_Mlist st0) (ST_Mnext st0) (ST_Mend st0) (ST_Mbegin st0) (ST_Mleft st0) (ST_Mturn st0) (ST_MfoundOps st0) (ST_Mops st0) (ST_Mkind st0) (ST_Mcode st0) (ST_Mwidth st0) (ST_Mscale st0) (ST_Mlink st0) (ST_Mrepeat st0) (ST_Mbase st0) (ST_MelementAt st0) (ST_MpointAt st0) = some q ∧ q.1 = 0 := by
  by_cases h0 : a0 < 0 ∨ 8 ≤ a0
  · have e2 := (sub0 h0).2
    have h := of_map ask_n
    have e3 : Mod_isSubset (-1) = some 0 := by decide
    unfold Mod_ask Mod_ask_j37 at h ⊢
    simp only [e2, e3, ob, if_true, Mod_ask_j38] at h ⊢
    exact h
  · have h1 : ¬ a0 < 0 := fun z => h0 (Or.inl z)
    have h2 : ¬ 8 ≤ a0 := fun z => h0 (Or.inr z)
    obtain ⟨i, hi, rfl⟩ := as_nat (n := 8) h1 (Int32.not_le.mp h2) (by decide)
    exact of_map (ask_k i hi)
set_option maxRecDepth 100000 in
theorem wlk_k : ∀ i : Nat, i < 8 → ((X_walkOver FUEL (0, -1) (ST_VAL st0) (ST_Tab st0) (Int32.ofNat i) (ST_Prog st0) (ST_Walk st0) (ST_Fld st0) (ST_Lps st0))).map (fun q => (q.1, Fld_count q.2.2.2.1)) = some (1, 0) := by decide +kernel
theorem wlk (a0 : Int32) : ∃ q, X_walkOver FUEL (0, -1) (ST_VAL st0) (ST_Tab st0) a0 (ST_Prog st0) (ST_Walk st0) (ST_Fld st0) (ST_Lps st0) = some q ∧ (q.1 = 0 ∨ (q.1 = 1 ∧ Fld_count q.2.2.2.1 = 0)) := by
  by_cases h0 : a0 < 0 ∨ 8 ≤ a0
  · have e2 := (sub0 h0).1
    unfold X_walkOver
    rw [e2]
    exact ⟨_, rfl, Or.inl rfl⟩
  · have h1 : ¬ a0 < 0 := fun z => h0 (Or.inl z)
    have h2 : ¬ 8 ≤ a0 := fun z => h0 (Or.inr z)
    obtain ⟨i, hi, rfl⟩ := as_nat (n := 8) h1 (Int32.not_le.mp h2) (by decide)
    obtain ⟨q, k1, k2⟩ := of_map (wlk_k i hi)
    exact ⟨q, k1, Or.inr ⟨congrArg Prod.fst k2, congrArg Prod.snd k2⟩⟩
theorem has0 {s : S_Fld} (h : Fld_count s = 0) (i : Int32) : Fld_has s i = some 0 := by
  unfold Fld_has
  by_cases h0 : i < 0
  · simp only [h0, if_true]
  · have h1 : (0 : Int32) ≤ i := Int32.not_lt.mp h0
    simp only [h, h0, h1, if_true, if_false]
theorem bare_X : Grd_isBare FUEL (ST_Grd st0) = some 1 := by decide +kernel
theorem pt_M : ∀ j : Nat, j < 64 → ST_Mpoints st0 j = -9000000000000000000 := by decide +kernel
theorem pq_1 : ∀ z : Nat, z < 64 → ¬ (64 ≤ Int32.ofNat z) ∧ o_in (Int32.ofNat z) 64 = true ∧ Int32.ofNat z + 1 = Int32.ofNat (z + 1) ∧ (Int32.ofNat z).toNatClampNeg = z := by decide +kernel
theorem pkl_M {fu : Nat} {P : Nat → Int64} {a : Int32} {s1 : S_Mo} {s2 s3 s4 : Nat → Int64} {s5 s6 : Nat → Int32} {ke : Int64 → Int64 → Option (Int32 × S_Mo × (Nat → Int64) × (Nat → Int64) × (Nat → Int64) × (Nat → Int32) × (Nat → Int32))} (hp : ∀ j : Nat, j < 64 → P j = -9000000000000000000) (n : Nat) (x y : Int64) : ∀ m z : Nat, z + m = 64 → Mod_pack_L12 fu P a s1 s2 s3 s4 s5 s6 ke (n + m + 1) x y (Int32.ofNat z) = ke x y
  | 0, z, hz => by
    obtain rfl : z = 64 := by omega
    rw [Mod_pack_L12, if_pos (by decide)]
  | m + 1, z, hz => by
    obtain ⟨b1, b2, b3, b4⟩ := pq_1 z (by omega)
    rw [show n + (m + 1) + 1 = (n + m + 1) + 1 by omega, Mod_pack_L12, if_neg b1, og b2, b4, if_pos (hp z (by omega))]
    unfold Mod_pack_j104
    rw [b3]
    exact pkl_M hp n x y m (z + 1) (by omega)
theorem ds_all : ∀ d : Nat, d < 521 → Desc_isKnown FUEL (Int32.ofNat d) = Mod_isDescriptor (Int32.ofNat d) ∧ (Mod_isDescriptor (Int32.ofNat d) = some 0 ∨ Mod_isDescriptor (Int32.ofNat d) = some 1) := by decide +kernel
theorem op_4 : ∀ k : Nat, k < 4 → ¬ (4 ≤ Int32.ofNat k) ∧ o_in (Int32.ofNat k) 4 = true ∧ (Int32.ofNat k).toNatClampNeg = k ∧ Int32.ofNat k + 1 = Int32.ofNat (k + 1) := by decide +kernel
theorem op_no {fu : Nat} {d : Int32} (h : ∀ k : Nat, k < 4 → d < cE k ∨ cL k < d) (n : Nat) : ∀ m z : Nat, z + m = 4 → Desc_operatorOf_L2 fu d (n + m + 1) (Int32.ofNat z) = some (-1)
  | 0, z, hz => by
    obtain rfl : z = 4 := by omega
    rw [Desc_operatorOf_L2, if_pos (by decide)]
  | m + 1, z, hz => by
    obtain ⟨b1, b2, b3, b4⟩ := op_4 z (by omega)
    rw [show n + (m + 1) + 1 = (n + m + 1) + 1 by omega, Desc_operatorOf_L2, if_neg b1, og b2, b3, og b2]
    unfold Desc_operatorOf_j27
    rw [b4]
    have ih := op_no (fu := fu) h n m (z + 1) (by omega)
    by_cases h1 : d < cE z
    · rw [if_pos h1]
      exact ih
    · rw [if_neg h1, if_pos ((h z (by omega)).resolve_left h1)]
      exact ih
theorem cE_le : ∀ k : Nat, k < 4 → (0 : Int32) < cE k ∧ cL k < 520 := by decide
theorem ds_out {d : Int32} (h : d < 0 ∨ 520 < d) : Desc_isKnown FUEL d = some 0 ∧ Mod_isDescriptor d = some 0 := by
  have hop : Desc_operatorOf FUEL d = some (-1) := op_no (fun k hk => h.elim (fun z => Or.inl (Int32.lt_trans z (cE_le k hk).1)) (fun z => Or.inr (Int32.lt_trans (cE_le k hk).2 z))) 4995 4 0 rfl
  unfold Desc_isKnown
  rw [hop]
  unfold Desc_isElement Desc_sequenceOf Desc_isRepeat Desc_bitsOf Desc_isMark
  unfold Mod_isDescriptor Mod_isDescriptor_j14 Mod_isDescriptor_j28 Mod_isDescriptor_j42 Mod_isDescriptor_j60 Mod_isDescriptor_j61 Mod_isDescriptor_j72 Mod_isDescriptor_j84 Mod_isDescriptor_j109 Mod_isRepeat
  rcases h with h | h
  · have t : ∀ k : Int32, 0 < k → d < k := fun k hk => Int32.lt_trans h hk
    have t2 : ∀ k : Int32, 0 < k → d ≤ k := fun k hk => Int32.le_of_lt (t k hk)
    have t3 : ¬ d = 520 := fun z => by rw [z] at h; exact absurd h (by decide)
    simp only [h, t 100 (by decide), t 216 (by decide), t2 500 (by decide), t3, t 400 (by decide), t 440 (by decide), t 460 (by decide), t 480 (by decide), t 501 (by decide), if_true, if_false, ob, and_self]
  · have u : ∀ k : Int32, k < 520 → k < d := fun k hk => Int32.lt_trans hk h
    have u1 : ∀ k : Int32, k < 520 → ¬ d < k := fun k hk => Int32.not_lt.mpr (Int32.le_of_lt (u k hk))
    have u2 : ∀ k : Int32, k < 520 → ¬ d ≤ k := fun k hk => Int32.not_le.mpr (u k hk)
    have u3 : ¬ d = 520 := fun z => by rw [z] at h; exact absurd h (by decide)
    have u4 : ∀ k : Int32, k < 520 → k ≤ d := fun k hk => Int32.le_of_lt (u k hk)
    simp only [u1 0 (by decide), u4 64 (by decide), u1 100 (by decide), u4 116 (by decide), u1 216 (by decide), u 343 (by decide), u2 500 (by decide), u 516 (by decide), u3, u1 400 (by decide), u2 431 (by decide), u1 440 (by decide), u2 455 (by decide), u1 460 (by decide), u2 468 (by decide), u1 480 (by decide), u 487 (by decide), u2 63 (by decide), u2 115 (by decide), u1 501 (by decide), u2 516 (by decide), if_true, if_false, ob, and_self]
theorem ds (d : Int32) : (Desc_isKnown FUEL d = some 0 ∧ Mod_isDescriptor d = some 0) ∨ (Desc_isKnown FUEL d = some 1 ∧ Mod_isDescriptor d = some 1) := by
  by_cases h : d < 0 ∨ 520 < d
  · exact Or.inl (ds_out h)
  · have h1 : ¬ d < 0 := fun z => h (Or.inl z)
    have h2 : d < 521 := (lt_le rfl).mpr (Int32.not_lt.mp fun z => h (Or.inr z))
    obtain ⟨j, hj, rfl⟩ := as_nat (n := 521) h1 h2 (by decide)
    obtain ⟨e1, e2⟩ := ds_all j hj
    rw [e1]
    exact e2.imp (fun z => ⟨z, z⟩) (fun z => ⟨z, z⟩)
theorem sz_X : ∀ k : Nat, k < 17 → Tab_sizes (ST_Tab st0) k = 0 := by decide +kernel
theorem ln_M : ∀ k : Nat, k < 17 → ST_Mlengths st0 k = 0 := by decide +kernel
theorem ap_k : ∀ k : Nat, k < 17 → o_in (Int32.ofNat k) 17 = true ∧ (Int32.ofNat k).toNatClampNeg = k ∧ o_in (Int32.ofNat k * 8 + 0) 152 = true ∧ o_in (24 * Int32.ofNat k + 0) 408 = true ∧ ¬ (Int32.ofNat k = -1) := by decide +kernel
/-- the list of that number is empty: one descriptor comes to it -/
theorem ap_X {s0 : S_Tab} (hz : ∀ k : Nat, k < 17 → Tab_sizes s0 k = 0) {k : Nat} (hk : k < 17) (d : Int32) : Tab_isFull s0 (Int32.ofNat k) = some 0 ∧ ∃ s, Tab_extend (Int32.ofNat k) d s0 = some (1, s) := by
  obtain ⟨b1, b2, b3, b4, b5⟩ := ap_k k hk
  constructor
  · unfold Tab_isFull Tab_isFull_j19
    rw [og b1, b2, hz k hk]
    split <;> rfl
  · unfold Tab_extend Tab_endOf Tab_startOf
    simp only [ob, og b1, b2, hz k hk, og b3, ol]
    refine ⟨_, congrArg some (Prod.ext ?_ rfl)⟩
    show (if k = k then _ else _) = (1 : Int32)
    rw [if_pos rfl]
    show Tab_sizes s0 k + 1 = 1
    rw [hz k hk]
    rfl
theorem ap_M {l1 l2 : Nat → Int32} (hz : ∀ k : Nat, k < 17 → l2 k = 0) {k : Nat} (hk : k < 17) (d : Int32) (s : S_Mo) (hs : Mo_thrown s = 0) (m : Int32) (hm : ¬ (0 : Int32) = m) : ∃ q, Mod_append_j62 d (Int32.ofNat k) (l2 k) m s l1 l2 = some q ∧ q.1 = 1 ∧ Mo_thrown q.2.1 = 0 := by
  obtain ⟨b1, b2, b3, b4, b5⟩ := ap_k k hk
  unfold Mod_append_j62 Mod_append_j70
  have h0 : Mo_thrown s ≤ 0 := by rw [hs]; decide
  simp only [hz k hk, hm, if_false, h0, if_true, og b1, b2, og b4, ol]
  refine ⟨_, rfl, ?_, hs⟩
  show (if k = k then _ else _) = (1 : Int32)
  rw [if_pos rfl]
  rfl
