-- shifts
theorem sh1 (x : Int64) : (x >>> ((1 : Int32).toInt64 &&& 63)).toInt = x.toInt / 2 := by
  have h : (x >>> ((1 : Int32).toInt64 &&& 63)).toBitVec = x.toBitVec.sshiftRight 1 := by
    rw [Int64.toBitVec_shiftRight]
    rfl
  show (x >>> ((1 : Int32).toInt64 &&& 63)).toBitVec.toInt = x.toBitVec.toInt / 2
  rw [h, BitVec.toInt_sshiftRight]
  exact Int.shiftRight_eq_div_pow _ 1
theorem sh_k : ∀ k : Fin 64, ((((Int32.ofNat k.val).toInt64 &&& 63) : Int64).toBitVec.smod 64).toNat = k.val := by decide +kernel
theorem sh_e {e : Int32} {k : Nat} (x : Int64) (he : e.toInt = (k : Int)) (hk : k < 64) : (x >>> ((e : Int32).toInt64 &&& 63)).toInt = x.toInt / ((2 ^ k : Nat) : Int) := by
  have ee : e = Int32.ofNat k := i_eq.mpr (by rw [i_of (by omega)]; exact he)
  show (x >>> ((e : Int32).toInt64 &&& 63)).toBitVec.toInt = _
  rw [Int64.toBitVec_shiftRight, BitVec.toInt_sshiftRight', ee, sh_k ⟨k, hk⟩]
  exact Int.shiftRight_eq_div_pow _ k
theorem t_length_L {fu : Nat} : ∀ (k n : Nat) (x2 : Int32) (x : Int64), x.toInt < 2 ^ k → k < n → So (Mod_length_L4 fu n x2 x) (fun _ => True)
  | _, 0, x2, x, _, h => absurd h (by omega)
  | 0, n + 1, x2, x, h, _ => by
    rw [Mod_length_L4]
    have k0 : (0 : Int64).toInt = 0 := by decide
    have h1 : x.toInt < 1 := h
    exact So.pos (by rw [i64_le]; omega) (So.one trivial)
  | k + 1, n + 1, x2, x, h, hn => by
    rw [Mod_length_L4]
    refine So.ite (fun _ => So.one trivial) (fun c => ?_)
    refine t_length_L k n _ _ ?_ (by omega)
    rw [sh1]
    have e : (2 : Int) ^ (k + 1) = 2 * 2 ^ k := by rw [Int.pow_succ, Int.mul_comm]
    rw [e] at h
    omega
theorem t_Mod_length {fu : Nat} {x : Int64} (hf : 12000 ≤ fu) : So (Mod_length fu x) (fun _ => True) := by
  unfold Mod_length
  refine t_length_L 63 fu 0 x ?_ (by omega)
  have := Int64.toInt_lt x
  have e : (2 : Int) ^ 63 = 9223372036854775808 := by decide
  omega
-- the grid (reference)
def KG (a b : S_Mo) : Prop := Mo_used a = Mo_used b ∧ Mo_taped a = Mo_taped b ∧ Mo_madeMany a = Mo_madeMany b ∧ Mo_madeKind a = Mo_madeKind b ∧ Mo_madeSubsets a = Mo_madeSubsets b ∧ Mo_written a = Mo_written b
abbrev A7 : Type := Int32 × S_Mo × (Nat → Int64) × (Nat → Int64) × (Nat → Int64) × (Nat → Int32) × (Nat → Int32)
def PkP (z : S_Mo) (r : A7) : Prop := I_Mo r.2.1 ∧ KG r.2.1 z
def CU (lo : Nat) (co : Int) (cut : Nat → Int32) : Prop := ∀ j : Nat, lo ≤ j → (j : Int) < co → (j : Int) < (cut j).toInt ∧ (cut j).toInt ≤ co
theorem t_pk_L489 {fu : Nat} {po pk cf : Nat → Int64} {cs : Nat → Int64} {cut : Nat → Int32} {x6 : Int32} (z : S_Mo) (co : Int) (hco : co ≤ 64) (hC : CU 0 co cut) : ∀ (n k : Nat) (x : Int32) (s : S_Mo) (ends : Nat → Int32), x.toInt = (k : Int) → k ≤ 64 → 64 - k < n → I_Mo s → KG s z → (Mo_codes s).toInt = co → (Mo_groups s).toInt ≤ (k : Int) → So (Mod_pack_L489 fu po x6 pk cf cs cut n x s ends) (PkP z)
  | 0, k, x, s, ends, _, _, h, _, _, _, _ => absurd h (by omega)
  | n + 1, k, x, s, ends, hx, hk, hn, I, K, hc, hg => by
    rw [Mod_pack_L489]
    refine So.ite (fun _ => So.one ⟨I, K⟩) (fun c => ?_)
    rw [i_le] at c
    have hG := I_Mo_groups I
    have k1 : (1 : Int32).toInt = 1 := by decide
    have e1 := i_add (a := Mo_groups s) (b := 1) (by omega) (by omega)
    have ix : x.toNatClampNeg = k := by
      have := i_nat (a := x) (by omega)
      omega
    have hcut := hC k (by omega) (by omega)
    refine So.gd (i_in.mpr (by omega)) (So.gd (i_in.mpr (by omega)) (So.lt (So.lt (So.gd (i_in.mpr (by omega)) ?_))))
    rw [ix]
    obtain ⟨m, hm⟩ : ∃ m : Nat, (cut k).toInt = (m : Int) := ⟨(cut k).toInt.toNat, by omega⟩
    refine t_pk_L489 z co hco hC n m _ _ _ hm (by omega) (by omega) (I_Mo_set_groups I (by omega)) K hc ?_
    show (Mo_groups s + 1).toInt ≤ _
    omega
theorem t_pk_L328 {fu : Nat} {po pk cf : Nat → Int64} {ends : Nat → Int32} {x1 x6 x7 : Int32} {i : Nat} {s : S_Mo} {ke : (Nat → Int64) → (Nat → Int32) → Option A7} {P : A7 → Prop} (hf : 12000 ≤ fu) (I : I_Mo s) (h7 : x7.toInt = (i : Int)) (hi : (i : Int) < (Mo_codes s).toInt) (hke : ∀ cs cut, CU i (Mo_codes s).toInt cut → So (ke cs cut) P) : ∀ (n k : Nat) (x8 x10 : Int64) (x12 : Int32) (cs : Nat → Int64) (cut : Nat → Int32), x12.toInt = (k : Int) → i ≤ k → k ≤ 64 → 64 - k < n → CU (i + 1) (Mo_codes s).toInt cut → (i < k → (i : Int) < (cut i).toInt ∧ (cut i).toInt ≤ (Mo_codes s).toInt) → So (Mod_pack_L328 fu po x1 x6 x7 s pk cf ends ke n x8 x10 x12 cs cut) P
  | 0, k, x8, x10, x12, cs, cut, _, _, _, h, _, _ => absurd h (by omega)
  | n + 1, k, x8, x10, x12, cs, cut, hx, hik, hk, hn, hC, hcu => by
    rw [Mod_pack_L328]
    have hco := I_Mo_codes I
    have k1 : (1 : Int32).toInt = 1 := by decide
    refine So.ite (fun c => ?_) (fun c => ?_) <;> rw [i_le] at c
    · refine hke cs cut (fun j hj hj2 => ?_)
      by_cases e : j = i
      · rw [e]
        exact hcu (by omega)
      · exact hC j (by omega) hj2
    · have e1 := i_add (a := x12) (b := 1) (by omega) (by omega)
      have g12 : o_in x12 64 = true := i_in.mpr (by omega)
      have g13 : o_in (x12 + 1) 65 = true := i_in.mpr (by omega)
      have g7 : o_in x7 65 = true := i_in.mpr (by omega)
      have i7 : x7.toNatClampNeg = i := by
        have := i_nat (a := x7) (by omega)
        omega
      have nx : ∀ (y8 y10 : Int64) (cs2 : Nat → Int64) (cut2 : Nat → Int32), CU (i + 1) (Mo_codes s).toInt cut2 → ((i : Int) < (cut2 i).toInt ∧ (cut2 i).toInt ≤ (Mo_codes s).toInt) → So (Mod_pack_L328 fu po x1 x6 x7 s pk cf ends ke n y8 y10 (x12 + 1) cs2 cut2) P := fun y8 y10 cs2 cut2 a b => t_pk_L328 hf I h7 hi hke n (k + 1) y8 y10 (x12 + 1) cs2 cut2 (by omega) (by omega) (by omega) (by omega) a (fun _ => b)
      have j449 : ∀ (y8 y10 v : Int64), So (Mod_pack_j449 fu po (fun v0 v1 v2 v3 v4 => Mod_pack_L328 fu po x1 x6 x7 s pk cf ends ke n v0 v1 v2 v3 v4) ke x1 x6 x7 s pk cf ends y8 y10 x12 v cs cut) P := by
        intro y8 y10 v
        unfold Mod_pack_j449 Mod_pack_j469
        refine So.gd g7 (So.lt (So.gd g7 (So.lt ?_)))
        rw [i7]
        refine nx _ _ _ _ (fun j hj hj2 => ?_) ?_
        · rw [upd_ne (by omega)]
          exact hC j hj hj2
        · rw [upd_at]
          omega
      have j389 : ∀ (t0 y8 : Int64), So (Mod_pack_j389 fu po (fun v0 v1 v2 v3 v4 => Mod_pack_L328 fu po x1 x6 x7 s pk cf ends ke n v0 v1 v2 v3 v4) ke x1 x6 x7 s pk cf ends y8 x12 t0 cs cut) P := by
        intro t0 y8
        unfold Mod_pack_j389
        refine So.bd (t_Mod_length hf) fun q _ => So.gd g13 (So.lt ?_)
        refine So.ite (fun _ => j449 _ _ _) (fun c2 => So.gd g7 (So.ite (fun _ => ?_) (fun _ => j449 _ _ _)))
        unfold Mod_pack_j469
        have : i < k := by
          have : x12.toInt ≠ x7.toInt := fun e => c2 (i_eq.mpr e)
          omega
        exact nx _ _ _ _ hC (hcu this)
      have j362 : ∀ (y10 t0 : Int64), So (Mod_pack_j362 fu po (fun v0 v1 v2 v3 v4 => Mod_pack_L328 fu po x1 x6 x7 s pk cf ends ke n v0 v1 v2 v3 v4) ke x1 x6 x7 s pk cf ends y10 x12 t0 cs cut) P := by
        intro y10 t0
        unfold Mod_pack_j362
        exact So.gd g12 (So.ite (fun _ => j389 _ _) (fun _ => So.gd g12 (j389 _ _)))
      exact So.gd g12 (So.ite (fun _ => j362 _ _) (fun _ => So.gd g12 (j362 _ _)))
theorem t_pk_L301 {fu : Nat} {po pk cf : Nat → Int64} {ends : Nat → Int32} {x1 x6 : Int32} {s : S_Mo} {ke : (Nat → Int64) → (Nat → Int32) → Option A7} {P : A7 → Prop} (hf : 12000 ≤ fu) (I : I_Mo s) (hke : ∀ cs cut, CU 0 (Mo_codes s).toInt cut → So (ke cs cut) P) : ∀ (n k : Nat) (x : Int32) (cs : Nat → Int64) (cut : Nat → Int32), x.toInt = (k : Int) - 1 → (k : Int) ≤ (Mo_codes s).toInt → k < n → CU k (Mo_codes s).toInt cut → So (Mod_pack_L301 fu po x1 x6 s pk cf ends ke n x cs cut) P
  | 0, k, x, cs, cut, _, _, h, _ => absurd h (by omega)
  | n + 1, k, x, cs, cut, hx, hk, hn, hC => by
    rw [Mod_pack_L301]
    have hco := I_Mo_codes I
    have k0 : (0 : Int32).toInt = 0 := by decide
    refine So.ite (fun c => ?_) (fun c => ?_) <;> rw [i_lt] at c
    · have : k = 0 := by omega
      subst this
      exact hke cs cut hC
    · obtain ⟨m, rfl⟩ : ∃ m, k = m + 1 := ⟨k - 1, by omega⟩
      have km : ((-1) : Int32).toInt = -1 := by decide
      have e1 := i_add (a := x) (b := (-1)) (by omega) (by omega)
      have e2 : (x + (-1)).toInt = (m : Int) - 1 := by rw [e1, km]; omega
      refine So.gd (i_in.mpr (by omega)) (So.gd (i_in.mpr (by omega)) ?_)
      refine t_pk_L328 (i := m) hf I (by omega) (by omega) (fun cs2 cut2 hC2 => ?_) fu m _ _ x cs cut (by omega) (by omega) (by omega) (by omega) hC (fun h => absurd h (by omega))
      unfold Mod_pack_j475
      exact t_pk_L301 hf I hke n m (x + (-1)) cs2 cut2 e2 (by omega) (by omega) hC2
theorem t_pk_j283 {fu : Nat} {po pk cf cs : Nat → Int64} {cut ends : Nat → Int32} {x1 x6 : Int32} {s z : S_Mo} (hf : 12000 ≤ fu) (I : I_Mo s) (K : KG s z) (h0 : 0 ≤ (Mo_codes s).toInt) : So (Mod_pack_j283 fu po x1 x6 s pk cf cs cut ends) (PkP z) := by
  unfold Mod_pack_j283
  have hco := I_Mo_codes I
  have k1 : (1 : Int32).toInt = 1 := by decide
  have e1 := i_sub (a := Mo_codes s) (b := 1) (by omega) (by omega)
  obtain ⟨k, hk⟩ : ∃ k : Nat, (Mo_codes s).toInt = (k : Int) := ⟨(Mo_codes s).toInt.toNat, by omega⟩
  refine So.gd (i_in.mpr (by omega)) (So.lt ?_)
  refine t_pk_L301 hf I (fun cs2 cut2 hC => ?_) fu k _ _ _ (by omega) (by omega) (by omega) (fun j hj hj2 => absurd hj2 (by omega))
  unfold Mod_pack_j481
  refine So.lt ?_
  exact t_pk_L489 z (Mo_codes s).toInt hco.2 hC fu 0 0 _ _ rfl (by omega) (by omega) (I_Mo_set_groups I (by decide)) K rfl (by show (0 : Int32).toInt ≤ 0; decide)
theorem t_pk_L183 {fu : Nat} {po cs : Nat → Int64} {cut ends : Nat → Int32} {x1 x6 : Int32} {x2 : Int64} {ke : S_Mo → (Nat → Int64) → (Nat → Int64) → Option A7} {P : A7 → Prop} (z : S_Mo) (hke : ∀ (s : S_Mo) pk cf, I_Mo s → KG s z → 0 ≤ (Mo_codes s).toInt → So (ke s pk cf) P) : ∀ (n k : Nat) (x : Int32) (s : S_Mo) (pk cf : Nat → Int64), x.toInt = (k : Int) → k ≤ 64 → 64 - k < n → I_Mo s → KG s z → 0 ≤ (Mo_codes s).toInt → (Mo_codes s).toInt ≤ (k : Int) → So (Mod_pack_L183 fu po x1 x2 x6 cs cut ends ke n x s pk cf) P
  | 0, k, x, s, pk, cf, _, _, h, _, _, _, _ => absurd h (by omega)
  | n + 1, k, x, s, pk, cf, hx, hk, hn, I, K, h0, h1 => by
    rw [Mod_pack_L183]
    have k64 : (64 : Int32).toInt = 64 := by decide
    have k1 : (1 : Int32).toInt = 1 := by decide
    refine So.ite (fun _ => hke _ _ _ I K h0) (fun c => ?_)
    rw [i_le] at c
    have e1 := i_add (a := x) (b := 1) (by omega) (by omega)
    refine So.bd (t_Mod_inOrder (by omega) (by omega)) fun q20 h20 => So.gd (i_in.mpr (by omega)) ?_
    refine So.bd (t_Mod_inOrder (by omega) (by omega)) fun q22 h22 => ?_
    have ec := i_add (a := Mo_codes s) (b := 1) (by omega) (by omega)
    have j238 : ∀ (v t : Int64), So (Mod_pack_j238 fu po (fun v0 v1 v2 v3 => Mod_pack_L183 fu po x1 x2 x6 cs cut ends ke n v0 v1 v2 v3) ke x1 x2 x6 cs cut ends x v q22 t s pk cf) P := by
      intro v t
      unfold Mod_pack_j238 Mod_pack_j277
      refine So.gd (i_in.mpr (by omega)) (So.lt (So.ite (fun _ => ?_) (fun _ => So.gd (i_in.mpr (by omega)) (So.lt (So.lt ?_)))))
      · exact t_pk_L183 z hke n (k + 1) (x + 1) s _ _ (by omega) (by omega) (by omega) I K h0 (by omega)
      · refine t_pk_L183 z hke n (k + 1) (x + 1) _ _ _ (by omega) (by omega) (by omega) (I_Mo_set_codes I (by omega)) K ?_ ?_
        · show 0 ≤ (Mo_codes s + 1).toInt
          omega
        · show (Mo_codes s + 1).toInt ≤ _
          omega
    exact So.ite (fun _ => j238 _ _) (fun _ => j238 _ _)
theorem t_pk_L154 {fu : Nat} {po pk cf cs : Nat → Int64} {cut ends : Nat → Int32} {x1 : Int32} {x2 x4 : Int64} {s : S_Mo} {ke : Int32 → Option A7} {P : A7 → Prop} (h1 : 1 ≤ x1.toInt) (h31 : x1.toInt ≤ 31) (hke : ∀ y, So (ke y) P) : ∀ (n k : Nat) (x : Int32), x.toInt = (k : Int) → k ≤ 62 → 62 - k < n → So (Mod_pack_L154 fu po x1 x2 x4 s pk cf cs cut ends ke n x) P
  | 0, k, x, _, _, h => absurd h (by omega)
  | n + 1, k, x, hx, hk, hn => by
    rw [Mod_pack_L154]
    have k1 : (1 : Int32).toInt = 1 := by decide
    have em : Mod_most x1 = some (mo x1) := rfl
    refine So.bde em (So.ite (fun _ => hke _) (fun c => ?_))
    have e1 := i_add (a := x) (b := 1) (by omega) (by omega)
    have hlt : k < 62 := by
      have : k ≠ 62 := fun e => by
        subst e
        rw [i64_le, sh_e _ hx (by omega)] at c
        obtain ⟨m, hm⟩ : ∃ m : Nat, x1.toInt = (m : Int) := ⟨x1.toInt.toNat, by omega⟩
        rw [mo_nat hm (by omega)] at c
        have a1 : (2 : Int) ≤ 2 ^ m := by exact_mod_cast (Nat.pow_le_pow_right (by decide) (by omega) : 2 ^ 1 ≤ 2 ^ m)
        have a2 := Int64.toInt_lt (x4 - x2)
        have a3 : ((2 ^ 62 : Nat) : Int) = 4611686018427387904 := by decide
        rw [a3] at c
        omega
      omega
    exact t_pk_L154 h1 h31 hke n (k + 1) (x + 1) (by omega) (by omega) (by omega)
theorem t_pk_L12 {fu : Nat} {po pk cf cs : Nat → Int64} {cut ends : Nat → Int32} {x1 : Int32} {s : S_Mo} {ke : Int64 → Int64 → Option A7} {P : A7 → Prop} (hke : ∀ y y', So (ke y y') P) : ∀ (n k : Nat) (x2 x4 : Int64) (x : Int32), x.toInt = (k : Int) → k ≤ 64 → 64 - k < n → So (Mod_pack_L12 fu po x1 s pk cf cs cut ends ke n x2 x4 x) P
  | 0, k, x2, x4, x, _, _, h => absurd h (by omega)
  | n + 1, k, x2, x4, x, hx, hk, hn => by
    rw [Mod_pack_L12]
    have k64 : (64 : Int32).toInt = 64 := by decide
    have k1 : (1 : Int32).toInt = 1 := by decide
    refine So.ite (fun _ => hke _ _) (fun c => ?_)
    rw [i_le] at c
    have e1 := i_add (a := x) (b := 1) (by omega) (by omega)
    have g : o_in x 64 = true := i_in.mpr (by omega)
    have nx : ∀ (y y' : Int64), So (Mod_pack_L12 fu po x1 s pk cf cs cut ends ke n y y' (x + 1)) P := fun y y' => t_pk_L12 hke n (k + 1) y y' (x + 1) (by omega) (by omega) (by omega)
    have j67 : ∀ (t y4 : Int64), So (Mod_pack_j67 fu po (fun v0 v1 v2 => Mod_pack_L12 fu po x1 s pk cf cs cut ends ke n v0 v1 v2) ke x1 s pk cf cs cut ends y4 x t) P := by
      intro t y4
      unfold Mod_pack_j67 Mod_pack_j90 Mod_pack_j102 Mod_pack_j104
      exact So.ite (fun _ => So.gd g (nx _ _)) (fun _ => So.gd g (So.ite (fun _ => nx _ _) (fun _ => So.gd g (nx _ _))))
    have j56 : ∀ y4 : Int64, So (Mod_pack_j56 fu po (fun v0 v1 v2 => Mod_pack_L12 fu po x1 s pk cf cs cut ends ke n v0 v1 v2) ke x1 s pk cf cs cut ends y4 x) P := by
      intro y4
      unfold Mod_pack_j56
      exact So.gd g (j67 _ _)
    unfold Mod_pack_j104
    exact So.gd g (So.ite (fun _ => nx _ _) (fun _ => So.ite (fun _ => j56 _) (fun _ => So.gd g (So.ite (fun _ => j67 _ _) (fun _ => j56 _)))))
theorem t_pk_all {fu : Nat} {po pk cf cs : Nat → Int64} {cut ends : Nat → Int32} {a0 : Int32} {s : S_Mo} (hf : 12000 ≤ fu) (I : I_Mo s) : So (Mod_pack fu po a0 s pk cf cs cut ends) (PkP s) := by
  unfold Mod_pack
  have k0 : (0 : Int32).toInt = 0 := by decide
  have k1 : (1 : Int32).toInt = 1 := by decide
  have k31 : (31 : Int32).toInt = 31 := by decide
  refine t_pk_L12 (fun y2 y4 => ?_) fu 0 _ _ 0 rfl (by omega) (by omega)
  have j139 : ∀ t : Int32, (t ≤ 0 → 1 ≤ a0.toInt ∧ a0.toInt ≤ 31) → So (Mod_pack_j139 fu po a0 y2 y4 t s pk cf cs cut ends) (PkP s) := by
    intro t ht
    unfold Mod_pack_j139
    have I1 : I_Mo (Mo_set_thrown s t) := I_Mo_set_thrown I
    refine So.lt (So.ite (fun c => ?_) (fun _ => So.one ⟨I1, rfl, rfl, rfl, rfl, rfl, rfl⟩))
    have hr := ht c
    refine t_pk_L154 hr.1 hr.2 (fun y6 => ?_) fu 0 0 rfl (by omega) (by omega)
    unfold Mod_pack_j175
    refine So.lt ?_
    exact t_pk_L183 s (fun s' pk' cf' I' K' h' => t_pk_j283 hf I' K' h') fu 0 0 _ _ _ rfl (by omega) (by omega) (I_Mo_set_codes I1 (by decide)) ⟨rfl, rfl, rfl, rfl, rfl, rfl⟩ (by show 0 ≤ (0 : Int32).toInt; decide) (by show (0 : Int32).toInt ≤ 0; decide)
  have j122 : So (Mod_pack_j122 fu po a0 y2 y4 s pk cf cs cut ends) (PkP s) := by
    unfold Mod_pack_j122
    exact j139 1 (fun h => absurd h (by decide))
  unfold Mod_pack_j110
  refine So.ite (fun _ => j122) (fun c => So.ite (fun c2 => ?_) (fun _ => j122))
  rw [i_lt] at c
  rw [i_le] at c2
  exact So.ite (fun _ => j139 _ (fun h => absurd h (by decide))) (fun _ => j139 _ (fun _ => by omega))
