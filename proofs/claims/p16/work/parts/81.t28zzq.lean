-- what was written, on both sides
def MdR (wb : S_Bits) (s : S_Mo) (ma : Nat → Int32) : Prop := (Mo_written s = 0 ∧ (Bits_length wb).toInt = 0) ∨ (¬ Mo_written s = 0 ∧ ∃ m : Nat, m ≤ 29400 ∧ (Mo_madeMany s).toInt = (m : Int) ∧ (Bits_length wb).toInt = ((32 + m : Nat) : Int) ∧ (∀ j, j < 3679 → 0 ≤ (Bits_bytes wb j).toInt ∧ (Bits_bytes wb j).toInt ≤ 255) ∧ Bits_bytes wb 0 = Mo_madeKind s ∧ Bits_bytes wb 1 = Mo_madeSubsets s ∧ (Bits_bytes wb 2).toInt = ((m / 256 : Nat) : Int) ∧ (Bits_bytes wb 3).toInt = ((m % 256 : Nat) : Int) ∧ (∀ k, k < m → (ma k).toInt = (Bv (Bits_bytes wb) (32 + k) : Int)) ∧ ∀ k, m ≤ k → k < 29400 → Bv (Bits_bytes wb) (32 + k) = 0)
theorem MdR.keep {wb : S_Bits} {s s' : S_Mo} {ma : Nat → Int32} (D : MdR wb s ma) (h : KMd s' s) : MdR wb s' ma := by
  obtain ⟨h1, h2, h3, h4⟩ := h
  unfold MdR
  rw [h1, h2, h3, h4]
  exact D
theorem MdR.kp {wb : S_Bits} {s s' : S_Mo} {ma : Nat → Int32} (D : MdR wb s ma) (h1 : (Mo_madeMany s').toInt = (Mo_madeMany s).toInt) (h2 : (Mo_madeKind s').toInt = (Mo_madeKind s).toInt) (h3 : (Mo_madeSubsets s').toInt = (Mo_madeSubsets s).toInt) (h4 : (Mo_written s').toInt = (Mo_written s).toInt) : MdR wb s' ma := D.keep ⟨i_eq.mpr h1, i_eq.mpr h2, i_eq.mpr h3, i_eq.mpr h4⟩
theorem iz_k : ∀ (V : Fin 256) (r p : Fin 8), r.val ≤ p.val → V.val % 2 ^ (8 - r.val) = 0 → (V.val / 2 ^ (7 - p.val)) % 2 = 0 := by decide +kernel
theorem inv_zero {f : Nat → Int32} {l c i : Nat} (h : InvB f l c) (h1 : l ≤ i) (h2 : i < 8 * c) : Bv f i = 0 := by
  obtain ⟨a, b, d⟩ := h
  unfold Bv
  by_cases e : i / 8 = l / 8
  · have r1 := a (l / 8) (by omega)
    have b1 := b (by omega)
    have q := iz_k ⟨(f (l / 8)).toInt.toNat, by omega⟩ ⟨l % 8, by omega⟩ ⟨i % 8, by omega⟩ (by show l % 8 ≤ i % 8; omega) b1
    rw [e]
    exact q
  · have z := d (i / 8) (by omega) (by omega)
    rw [z]
    show 0 / 2 ^ (7 - i % 8) % 2 = 0
    rw [Nat.zero_div]
theorem hb_byte {f : Nat → Int32} {g : Int32} {o : Nat} {hb : Nat → Nat} (hf : 0 ≤ (f o).toInt ∧ (f o).toInt ≤ 255) (hg : 0 ≤ g.toInt ∧ g.toInt ≤ 255) (hb1 : ∀ r, r < 8 → Bv f (8 * o + r) = hb r) (hb2 : ∀ r, r < 8 → hb r = ((g.toInt / ((2 ^ (7 - r) : Nat) : Int)) % 2).toNat) : f o = g := by
  obtain ⟨G, hG⟩ : ∃ G : Nat, g.toInt = (G : Int) := ⟨g.toInt.toNat, by omega⟩
  have e := byte_eq (V := (f o).toInt.toNat) (U := G) (by omega) (by omega) (fun r hr => by
    have a := hb1 r hr
    have b := hb2 r hr
    unfold Bv at a
    have d1 : (8 * o + r) / 8 = o := by omega
    have d2 : (8 * o + r) % 8 = r := by omega
    rw [d1, d2] at a
    rw [hG] at b
    have b2 : hb r = (G / 2 ^ (7 - r)) % 2 := b
    rw [a, b2])
  exact i_eq.mpr (by omega)
theorem md_of {f x1 : Int32} {Wr : S_Wri} {b b' : S_Bits} {s S' : S_Mo} {bi ma : Nat → Int32} (hf : 0 ≤ f.toInt ∧ f.toInt ≤ 255) (hx : 0 ≤ x1.toInt ∧ x1.toInt ≤ 255) (W : WrR (hbs f x1) b s bi) (hm : (Mo_many s).toInt ≤ 29400) (e : Wri_end Wr b = some b') (hma : ∀ j : Nat, (j : Int) < (Mo_many s).toInt → ma j = bi j) (s1 : ¬ Mo_written S' = 0) (s2 : Mo_madeMany S' = Mo_many s) (s3 : Mo_madeKind S' = f) (s4 : Mo_madeSubsets S' = x1) : MdR b' S' ma ∧ (Bits_length b').toInt = 32 + (Mo_many s).toInt := by
  obtain ⟨m, m1, m2, m3, m4, m5⟩ := W
  obtain ⟨w1, w2, w3, w4⟩ := we_end e (by omega) m2
  have bv : ∀ i, ¬ i / 8 = 2 → ¬ i / 8 = 3 → Bv (Bits_bytes b') i = Bv (Bits_bytes b) i := by
    intro i h2 h3
    unfold Bv
    rw [w4 (i / 8) h2 h3]
  have by0 : Bits_bytes b 0 = f := hb_byte (hb := hbs f x1) (m3.1 0 (by decide)) hf (fun r hr => by
    have := m5 r (by omega)
    have z : 8 * 0 + r = r := by omega
    rw [z]
    exact this) (fun r hr => by
    unfold hbs
    rw [if_pos hr])
  have by1 : Bits_bytes b 1 = x1 := hb_byte (hb := fun r => hbs f x1 (8 + r)) (m3.1 1 (by decide)) hx (fun r hr => by
    have := m5 (8 + r) (by omega)
    have z : 8 * 1 + r = 8 + r := by omega
    rw [z]
    exact this) (fun r hr => by
    show hbs f x1 (8 + r) = _
    unfold hbs
    have z : 15 - (8 + r) = 7 - r := by omega
    rw [if_neg (show ¬ 8 + r < 8 by omega), z])
  refine ⟨Or.inr ⟨s1, m, by omega, by rw [s2]; exact m1, by rw [w1]; exact m2, fun j hj => ?_, ?_, ?_, w2, w3, fun k hk => ?_, fun k h1 h2 => ?_⟩, ?_⟩
  · by_cases c2 : j = 2
    · rw [c2, w2]
      omega
    · by_cases c3 : j = 3
      · rw [c3, w3]
        omega
      · rw [w4 j c2 c3]
        exact m3.1 j hj
  · rw [w4 0 (by decide) (by decide), by0, s3]
  · rw [w4 1 (by decide) (by decide), by1, s4]
  · rw [bv (32 + k) (by omega) (by omega), hma k (by omega)]
    exact m4 k hk
  · rw [bv (32 + k) (by omega) (by omega)]
    exact inv_zero m3 (by omega) (by omega)
  · rw [w1, m2, m1]
    omega
theorem w_bad {fu : Nat} {th sc rf wi ls le : Nat → Int32} {va : Nat → Int64} {x1 x2 : Int32} {s : S_Mo} {rd : Nat → Int64} {li ne en be lf tu fo op ki co wd sca lk rp : Nat → Int32} {ba : Nat → Int64} {ea pa : Nat → Int32} {bi ma fk fw fs : Nat → Int32} {fb : Nat → Int64} {R : A26} (hz : ¬ Mo_fault s ≤ 0) (h : Mod_write_j192 fu th sc rf wi ls le va x1 x2 s rd li ne en be lf tu fo op ki co wd sca lk rp ba ea pa bi ma fk fw fs fb = some R) : R.1 = 0 ∧ R.2.1 = Mo_set_thrown s 1 ∧ R.2.2.2.2.2.2.2.2.2.2.2.2.2.2.2.2.2.2.2.2.2.1 = ma := by
  unfold Mod_write_j192 at h
  rw [if_neg hz] at h
  unfold Mod_write_j205 o_lt at h
  dsimp only at h
  have c : ¬ Mo_thrown (Mo_set_thrown s 1) ≤ 0 := by
    show ¬ (1 : Int32) ≤ 0
    decide
  rw [if_neg c] at h
  cases h
  exact ⟨rfl, rfl, rfl⟩
theorem w_good {fu m : Nat} {th sc rf wi ls le : Nat → Int32} {va : Nat → Int64} {x1 x2 : Int32} {s : S_Mo} {rd : Nat → Int64} {li ne en be lf tu fo op ki co wd sca lk rp : Nat → Int32} {ba : Nat → Int64} {ea pa : Nat → Int32} {bi ma fk fw fs : Nat → Int32} {fb : Nat → Int64} {R : A26} (hz : Mo_fault s = 0) (hm : (Mo_many s).toInt = (m : Int)) (h4 : m ≤ 29400) (hb : ∀ k, k < m → (bi k).toInt = 0 ∨ (bi k).toInt = 1) (h : Mod_write_j192 fu th sc rf wi ls le va x1 x2 s rd li ne en be lf tu fo op ki co wd sca lk rp ba ea pa bi ma fk fw fs fb = some R) : R.1.toInt = 4 + ((m : Int) + 7) / 8 ∧ Mo_thrown R.2.1 = 0 ∧ Mo_written R.2.1 = 1 ∧ Mo_madeMany R.2.1 = Mo_many s ∧ Mo_madeKind R.2.1 = (if x2 = 0 then 66 else 67) ∧ Mo_madeSubsets R.2.1 = x1 ∧ ∀ j, j < m → R.2.2.2.2.2.2.2.2.2.2.2.2.2.2.2.2.2.2.2.2.2.1 j = bi j := by
  have k7 : (7 : Int32).toInt = 7 := by decide
  have k8 : (8 : Int32).toInt = 8 := by decide
  have k4 : (4 : Int32).toInt = 4 := by decide
  have a1 : (Mo_many s + 7).toInt = (m : Int) + 7 := by
    rw [i_add (a := Mo_many s) (b := 7) (by omega) (by omega), hm, k7]
  have a2 : ((Mo_many s + 7) / 8).toInt = ((m : Int) + 7) / 8 := by
    rw [i_divk (Mo_many s + 7) 8 8 k8 (by decide) (by rw [a1]; clear a1; omega), a1]
  have a3 : (4 + (Mo_many s + 7) / 8).toInt = 4 + ((m : Int) + 7) / 8 := by
    rw [i_add (a := 4) (b := (Mo_many s + 7) / 8) (by rw [a2, k4]; clear a1 a2; omega) (by rw [a2, k4]; clear a1 a2; omega), a2, k4]
  unfold Mod_write_j192 at h
  rw [if_pos (show Mo_fault s ≤ 0 by rw [hz]; decide)] at h
  unfold Mod_write_j205 o_lt at h
  dsimp only at h
  have c : Mo_thrown (Mo_set_thrown s 0) ≤ 0 := by
    show (0 : Int32) ≤ 0
    decide
  rw [if_pos c] at h
  obtain ⟨ma', h, ag⟩ := made_L (m := m) (s := Mo_set_thrown s 0) hm (by omega) hb fu 0 0 ma (by decide) (by omega) (fun j hj => absurd hj (by omega)) h
  unfold Mod_write_j245 o_lt at h
  dsimp only at h
  by_cases c2 : x2 = 0
  · rw [if_pos c2] at h
    unfold Mod_write_j265 o_lt at h
    dsimp only at h
    cases h
    rw [if_pos c2]
    exact ⟨a3, rfl, rfl, rfl, rfl, rfl, ag⟩
  · rw [if_neg c2] at h
    unfold Mod_write_j265 o_lt at h
    dsimp only at h
    cases h
    rw [if_neg c2]
    exact ⟨a3, rfl, rfl, rfl, rfl, rfl, ag⟩
theorem l165_stop {fu n' : Nat} {th sc rf wi ls le : Nat → Int32} {va : Nat → Int64} {x1 x2 y : Int32} {s : S_Mo} {rd : Nat → Int64} {li ne en be lf tu fo op ki co wd sca lk rp : Nat → Int32} {ba : Nat → Int64} {ea pa : Nat → Int32} {bi ma fk fw fs : Nat → Int32} {fb : Nat → Int64} {k165 : S_Mo → (Nat → Int32) → Option A26} {R : A26} (hz : ¬ Mo_fault s = 0) (h : Mod_write_L165 fu th sc rf wi ls le va x1 x2 rd li ne en be lf tu fo op ki co wd sca lk rp ba ea pa ma fk fw fs fb k165 n' y s bi = some R) : k165 s bi = some R := by
  cases n' with
  | zero =>
    rw [Mod_write_L165] at h
    cases h
  | succ n' =>
    rw [Mod_write_L165] at h
    by_cases c : Mo_fields s ≤ y
    · rw [if_pos c] at h
      exact h
    · rw [if_neg c, if_neg hz] at h
      exact h
