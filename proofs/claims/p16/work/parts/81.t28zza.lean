-- bits that are added to bytes
theorem and1_64 (y : Int64) : (y &&& 1).toInt = y.toInt % 2 := by
  have e : (y &&& 1).toBitVec.toNat = y.toBitVec.toNat % 2 := by
    show (y.toBitVec &&& 1#64).toNat = _
    rw [BitVec.toNat_and]
    exact Nat.and_one_is_mod _
  have h1 : (y &&& 1).toInt = ((y &&& 1).toBitVec.toNat : Int) := by
    show (y &&& 1).toBitVec.toInt = _
    rw [BitVec.toInt_eq_toNat_cond, e, if_pos (by omega)]
  have h2 : y.toInt = if 2 * y.toBitVec.toNat < 2 ^ 64 then (y.toBitVec.toNat : Int) else (y.toBitVec.toNat : Int) - (2 ^ 64 : Nat) := BitVec.toInt_eq_toNat_cond y.toBitVec
  rw [h1, e, h2]
  split <;> omega
theorem and255 (y : Int32) : (y &&& 255).toInt = y.toInt % 256 := by
  have e : (y &&& 255).toBitVec.toNat = y.toBitVec.toNat % 256 := by
    show (y.toBitVec &&& 255#32).toNat = _
    rw [BitVec.toNat_and]
    exact Nat.and_two_pow_sub_one_eq_mod y.toBitVec.toNat 8
  have h1 : (y &&& 255).toInt = ((y &&& 255).toBitVec.toNat : Int) := by
    show (y &&& 255).toBitVec.toInt = _
    rw [BitVec.toInt_eq_toNat_cond, e, if_pos (by omega)]
  have h2 : y.toInt = if 2 * y.toBitVec.toNat < 2 ^ 32 then (y.toBitVec.toNat : Int) else (y.toBitVec.toNat : Int) - (2 ^ 32 : Nat) := BitVec.toInt_eq_toNat_cond y.toBitVec
  rw [h1, e, h2]
  split <;> omega
theorem shI_k : ∀ k : Fin 32, ((Int32.ofNat k.val &&& 31).toBitVec.smod 32).toNat = k.val := by decide +kernel
theorem shI {e : Int32} {k : Nat} (x : Int32) (he : e.toInt = (k : Int)) (hk : k < 32) : (x >>> (e &&& 31)).toInt = x.toInt / ((2 ^ k : Nat) : Int) := by
  have ee : e = Int32.ofNat k := i_eq.mpr (by rw [i_of (by omega)]; exact he)
  show (x >>> (e &&& 31)).toBitVec.toInt = _
  rw [Int32.toBitVec_shiftRight, BitVec.toInt_sshiftRight', ee, shI_k ⟨k, hk⟩]
  exact Int.shiftRight_eq_div_pow _ k
def Bv (f : Nat → Int32) (i : Nat) : Nat := ((f (i / 8)).toInt.toNat / 2 ^ (7 - i % 8)) % 2
def InvB (f : Nat → Int32) (l c : Nat) : Prop := (∀ j, j < c → 0 ≤ (f j).toInt ∧ (f j).toInt ≤ 255) ∧ (l / 8 < c → (f (l / 8)).toInt.toNat % 2 ^ (8 - l % 8) = 0) ∧ ∀ j, l / 8 < j → j < c → f j = 0
theorem or_k : ∀ (V : Fin 256) (r : Fin 8), V.val % 2 ^ (8 - r.val) = 0 → (Int32.ofNat V.val ||| (128 >>> (Int32.ofNat r.val &&& 31))) = Int32.ofNat (V.val + 2 ^ (7 - r.val)) ∧ V.val + 2 ^ (7 - r.val) ≤ 255 ∧ (V.val + 2 ^ (7 - r.val)) % 2 ^ (7 - r.val) = 0 ∧ V.val % 2 ^ (7 - r.val) = 0 ∧ (V.val / 2 ^ (7 - r.val)) % 2 = 0 ∧ ((V.val + 2 ^ (7 - r.val)) / 2 ^ (7 - r.val)) % 2 = 1 := by decide +kernel
theorem or_k2 : ∀ (V : Fin 256) (r p : Fin 8), V.val % 2 ^ (8 - r.val) = 0 → p.val < r.val → ((V.val + 2 ^ (7 - r.val)) / 2 ^ (7 - p.val)) % 2 = (V.val / 2 ^ (7 - p.val)) % 2 := by decide +kernel
-- one bit
theorem bit_put {f : Nat → Int32} {l c : Nat} (hl : l < 8 * c) (h : InvB f l c) (b : Bool) : ∃ x : Int32, (b = false → x = f (l / 8)) ∧ (b = true → x = (f (l / 8) ||| (128 >>> (Int32.ofNat (l % 8) &&& 31)))) ∧ InvB (upd f (l / 8) x) (l + 1) c ∧ (∀ i, i < l → Bv (upd f (l / 8) x) i = Bv f i) ∧ Bv (upd f (l / 8) x) l = (if b then 1 else 0) := by
  obtain ⟨h1, h2, h3⟩ := h
  have hq : l / 8 < c := by omega
  obtain ⟨g1, g2⟩ := h1 (l / 8) hq
  have g3 := h2 hq
  obtain ⟨V, hV⟩ : ∃ V : Nat, V = (f (l / 8)).toInt.toNat := ⟨_, rfl⟩
  rw [← hV] at g3
  have eV : (f (l / 8)).toInt = (V : Int) := by omega
  have fV : f (l / 8) = Int32.ofNat V := i_eq.mpr (by rw [eV, i_of (by omega)])
  have hr : l % 8 < 8 := Nat.mod_lt _ (by decide)
  have K := or_k ⟨V, by omega⟩ ⟨l % 8, hr⟩ g3
  have K2 := fun p : Fin 8 => or_k2 ⟨V, by omega⟩ ⟨l % 8, hr⟩ p g3
  have K : (Int32.ofNat V ||| (128 >>> (Int32.ofNat (l % 8) &&& 31))) = Int32.ofNat (V + 2 ^ (7 - l % 8)) ∧ V + 2 ^ (7 - l % 8) ≤ 255 ∧ (V + 2 ^ (7 - l % 8)) % 2 ^ (7 - l % 8) = 0 ∧ V % 2 ^ (7 - l % 8) = 0 ∧ (V / 2 ^ (7 - l % 8)) % 2 = 0 ∧ ((V + 2 ^ (7 - l % 8)) / 2 ^ (7 - l % 8)) % 2 = 1 := K
  obtain ⟨y1, y2, y3, y4, y5, y6⟩ := K
  -- the new byte, as a number
  obtain ⟨U, hU⟩ : ∃ U : Nat, U = (if b then V + 2 ^ (7 - l % 8) else V) := ⟨_, rfl⟩
  have U255 : U ≤ 255 := by
    rw [hU]
    cases b
    · show V ≤ 255
      omega
    · exact y2
  have Umod : U % 2 ^ (7 - l % 8) = 0 := by
    rw [hU]
    cases b
    · exact y4
    · exact y3
  have Ubit : (U / 2 ^ (7 - l % 8)) % 2 = (if b then 1 else 0) := by
    rw [hU]
    cases b
    · exact y5
    · exact y6
  have Uold : ∀ p, p < l % 8 → (U / 2 ^ (7 - p)) % 2 = (V / 2 ^ (7 - p)) % 2 := by
    intro p hp
    rw [hU]
    cases b
    · rfl
    · exact K2 ⟨p, by omega⟩ hp
  have tU : (Int32.ofNat U).toInt.toNat = U := by
    rw [i_of (by omega)]
    rfl
  refine ⟨Int32.ofNat U, fun e => ?_, fun e => ?_, ⟨fun j hj => ?_, fun hc => ?_, fun j h4 h5 => ?_⟩, fun i hi => ?_, ?_⟩
  · rw [hU, e, fV]
    rfl
  · rw [hU, e, fV, y1]
    rfl
  · by_cases c : j = l / 8
    · rw [c, upd_at, i_of (by omega)]
      omega
    · rw [upd_ne c]
      exact h1 j hj
  · by_cases c7 : l % 8 = 7
    · have e1 : (l + 1) / 8 = l / 8 + 1 := by omega
      have ne : (l + 1) / 8 ≠ l / 8 := by omega
      have z := h3 ((l + 1) / 8) (by omega) hc
      rw [upd_ne ne, z]
      have z0 : (0 : Int32).toInt.toNat = 0 := by decide
      rw [z0, Nat.zero_mod]
    · have e1 : (l + 1) / 8 = l / 8 := by omega
      have e2 : 8 - (l + 1) % 8 = 7 - l % 8 := by omega
      rw [e1, upd_at, e2, tU]
      exact Umod
  · have ne : j ≠ l / 8 := by omega
    rw [upd_ne ne]
    exact h3 j (by omega) h5
  · unfold Bv
    by_cases c : i / 8 = l / 8
    · rw [c, upd_at, tU, ← hV]
      exact Uold (i % 8) (by omega)
    · rw [upd_ne c]
  · unfold Bv
    rw [upd_at, tU]
    exact Ubit
theorem add_L {fu c : Nat} {v : Int64} (hc : c ≤ 3679) : ∀ (k n l : Nat) (x : Int32) (b : S_Bits), x.toInt = (k : Int) - 1 → k < n → k ≤ 64 → (Bits_length b).toInt = (l : Int) → l + k ≤ 8 * c → InvB (Bits_bytes b) l c → ∃ b' : S_Bits, Bits_add_L5 fu c v n x b = some b' ∧ (Bits_length b').toInt = ((l + k : Nat) : Int) ∧ InvB (Bits_bytes b') (l + k) c ∧ (∀ i, i < l → Bv (Bits_bytes b') i = Bv (Bits_bytes b) i) ∧ (∀ i, i < k → (Bv (Bits_bytes b') (l + i) : Int) = (v.toInt / ((2 ^ (k - 1 - i) : Nat) : Int)) % 2)
  | k, 0, l, x, b, _, h, _, _, _, _ => absurd h (by omega)
  | 0, n + 1, l, x, b, hx, _, _, hl, _, hI => by
    have k0 : (0 : Int32).toInt = 0 := by decide
    have c0 : x < 0 := by rw [i_lt]; omega
    refine ⟨b, ?_, hl, hI, fun _ _ => rfl, fun i hi => absurd hi (by omega)⟩
    rw [Bits_add_L5, if_pos c0]
  | k + 1, n + 1, l, x, b, hx, hn, hk, hl, hlk, hI => by
    have k0 : (0 : Int32).toInt = 0 := by decide
    have k1 : (1 : Int32).toInt = 1 := by decide
    have km : ((-1) : Int32).toInt = -1 := by decide
    have c0 : ¬ x < 0 := by rw [i_lt]; omega
    obtain ⟨e1, e2⟩ := div8 hl
    have en := i_of (n := c) (by omega)
    have c1 : ¬ Int32.ofNat c ≤ Bits_length b / 8 := by
      rw [i_le, en, e1]
      clear e1 en
      omega
    have g : o_in (Bits_length b / 8) c = true := i_in.mpr (by rw [e1]; clear e1 en; omega)
    have nq : (Bits_length b / 8).toNatClampNeg = l / 8 := by
      have := i_nat (a := Bits_length b / 8) (by rw [e1]; clear e1 en; omega)
      rw [e1] at this
      clear e1 en
      omega
    clear e1 en
    have xm : (x + (-1)).toInt = (k : Int) - 1 := by
      rw [i_add (a := x) (b := (-1)) (by omega) (by omega), km, hx]
      omega
    have l1 : (Bits_length b + 1).toInt = ((l + 1 : Nat) : Int) := by
      clear xm
      rw [i_add (a := Bits_length b) (b := 1) (by omega) (by omega), hl, k1]
      rfl
    have ebit : ((v >>> (x.toInt64 &&& 63)) &&& 1).toInt = (v.toInt / ((2 ^ k : Nat) : Int)) % 2 := by
      clear xm l1
      rw [and1_64, sh_e v (k := k) (by omega) (by omega)]
    have z0 : (0 : Int64).toInt = 0 := by decide
    -- the bit
    obtain ⟨t, ht⟩ : ∃ t : Bool, t = true ↔ ¬ ((v >>> (x.toInt64 &&& 63)) &&& 1) = 0 := by
      by_cases cb : ((v >>> (x.toInt64 &&& 63)) &&& 1) = 0
      · exact ⟨false, ⟨fun e => absurd e (by decide), fun e => absurd cb e⟩⟩
      · exact ⟨true, ⟨fun _ => cb, fun _ => rfl⟩⟩
    obtain ⟨u, u1, u2, u3, u4, u5⟩ := bit_put (f := Bits_bytes b) (l := l) (c := c) (by clear xm l1 ebit; omega) hI t
    have step : Bits_add_L5 fu c v (n + 1) x b = Bits_add_L5 fu c v n (x + (-1)) (Bits_set_length (Bits_set_bytes b (upd (Bits_bytes b) (l / 8) u)) (Bits_length b + 1)) := by
      rw [Bits_add_L5, if_neg c0, if_neg c1]
      by_cases cb : ((v >>> (x.toInt64 &&& 63)) &&& 1) = 0
      · have tf : t = false := by
          cases t
          · rfl
          · exact absurd cb (ht.1 rfl)
        have eu : upd (Bits_bytes b) (l / 8) u = Bits_bytes b := by
          funext j
          by_cases cj : j = l / 8
          · rw [cj, upd_at]
            exact u1 tf
          · exact upd_ne cj
        rw [if_pos cb, eu]
        rfl
      · have tt : t = true := ht.2 cb
        rw [if_neg cb, gd_t g, gd_t g, nq, e2]
        rw [← u2 tt]
        rfl
    obtain ⟨b', g1, g2, g3, g4, g5⟩ := add_L (fu := fu) (v := v) hc k n (l + 1) (x + (-1)) (Bits_set_length (Bits_set_bytes b (upd (Bits_bytes b) (l / 8) u)) (Bits_length b + 1)) xm (by clear xm l1 ebit; omega) (by clear xm l1 ebit; omega) l1 (by clear xm l1 ebit; omega) u3
    have g4 : ∀ i, i < l + 1 → Bv (Bits_bytes b') i = Bv (upd (Bits_bytes b) (l / 8) u) i := g4
    have a1 : l + 1 + k = l + (k + 1) := by clear xm l1 ebit; omega
    rw [a1] at g2 g3
    refine ⟨b', step.trans g1, g2, g3, fun i hi => ?_, fun i hi => ?_⟩
    · rw [g4 i (by clear xm l1 ebit; omega)]
      exact u4 i hi
    · cases i with
      | zero =>
        have e0 : l + 0 = l := rfl
        have ek : k + 1 - 1 - 0 = k := by clear xm l1 ebit; omega
        rw [e0, g4 l (by clear xm l1 ebit; omega), u5, ek, ← ebit]
        by_cases cb : ((v >>> (x.toInt64 &&& 63)) &&& 1) = 0
        · have tf : t = false := by
            cases t
            · rfl
            · exact absurd cb (ht.1 rfl)
          rw [tf, cb, z0]
          rfl
        · have tt : t = true := ht.2 cb
          rw [tt]
          have nz : ¬ ((v >>> (x.toInt64 &&& 63)) &&& 1).toInt = 0 := fun e => cb (i64_eq.mpr (by rw [e, z0]))
          rw [ebit] at nz ⊢
          have rng : 0 ≤ (v.toInt / ((2 ^ k : Nat) : Int)) % 2 ∧ (v.toInt / ((2 ^ k : Nat) : Int)) % 2 < 2 := ⟨Int.emod_nonneg _ (by decide), Int.emod_lt_of_pos _ (by decide)⟩
          show (1 : Int) = _
          clear xm l1 ebit
          omega
      | succ i =>
        have e0 : l + (i + 1) = l + 1 + i := by clear xm l1 ebit; omega
        have ek : k + 1 - 1 - (i + 1) = k - 1 - i := by clear xm l1 ebit; omega
        rw [e0, ek]
        exact g5 i (by clear xm l1 ebit; omega)
-- a byte is its bits
theorem byte_eq {V U : Nat} (hV : V ≤ 255) (hU : U ≤ 255) (h : ∀ r, r < 8 → (V / 2 ^ (7 - r)) % 2 = (U / 2 ^ (7 - r)) % 2) : V = U := by
  have h0 := h 0 (by decide)
  have h1 := h 1 (by decide)
  have h2 := h 2 (by decide)
  have h3 := h 3 (by decide)
  have h4 := h 4 (by decide)
  have h5 := h 5 (by decide)
  have h6 := h 6 (by decide)
  have h7 := h 7 (by decide)
  have p0 : 2 ^ (7 - 0) = 128 := rfl
  have p1 : 2 ^ (7 - 1) = 64 := rfl
  have p2 : 2 ^ (7 - 2) = 32 := rfl
  have p3 : 2 ^ (7 - 3) = 16 := rfl
  have p4 : 2 ^ (7 - 4) = 8 := rfl
  have p5 : 2 ^ (7 - 5) = 4 := rfl
  have p6 : 2 ^ (7 - 6) = 2 := rfl
  have p7 : 2 ^ (7 - 7) = 1 := rfl
  rw [p0] at h0
  rw [p1] at h1
  rw [p2] at h2
  rw [p3] at h3
  rw [p4] at h4
  rw [p5] at h5
  rw [p6] at h6
  rw [p7] at h7
  omega
