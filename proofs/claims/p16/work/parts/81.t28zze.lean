theorem va_init {VAL : Nat → Nat → Int64} {va : Nat → Int64} (h1 : VZ VAL) (h2 : ∀ j, j < 800 → va j = (-9000000000000000000)) : RwR VAL va := fun k j hk hj => (h1 k hk j hj).trans (h2 (100 * k + j) (by omega)).symm
theorem yw_Bits_init : So Bits_init_1000 (fun r => ∀ j, Bits_bytes r j = 0) := So.one (fun _ => rfl)
theorem yw_X_init {fu : Nat} (hf : 12000 ≤ fu) : So (X_init fu) (fun r => ∀ j, Bits_bytes r.2.2.2.2.2.2.2.2.1 j = 0) := by
  unfold X_init
  refine So.bd yy_Tab_init fun q1 _ => So.bd t_Prog_init fun q2 _ => So.bd t_Walk_init fun q3 _ => So.bd t_Wri_init fun q4 _ => So.bd yw_Bits_init fun q5 h5 => ?_
  have hre : So Rea_init (fun _ => True) := So.one trivial
  refine So.bd hre fun q6 _ => So.bd (yy_Grd_init hf) fun q7 _ => So.lt (So.lt ?_)
  refine t_xi_L hf (fun m => ?_) fu 0 0 _ rfl (by omega) (by omega)
  unfold X_init_j138
  exact So.lt (So.lt (So.one h5))
