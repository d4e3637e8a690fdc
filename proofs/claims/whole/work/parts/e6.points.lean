/-! ===== THE REFERENCE: whole, the points of the box ===== -/
section PTS
variable {d : Nat} {h : qH} {bs : List bdy} {i : Nat}
theorem iN_div {a b : Nat} (ha : a < 2147483648) (hb : b < 2147483648) (h0 : 0 < b) : iN a / iN b = iN (a / b) := by
  have hq : a / b ≤ a := Nat.div_le_self a b
  rw [← Int32.toInt_inj, Int32.toInt_div_of_ne_right _ _ (fun e => by
    have : (iN b).toInt = (-1 : Int32).toInt := by rw [e]
    rw [iN_int hb] at this
    have e1 : (-1 : Int32).toInt = -1 := by decide
    omega), iN_int ha, iN_int hb, iN_int (by omega)]
  rfl
theorem iN_mod {a b : Nat} (ha : a < 2147483648) (hb : b < 2147483648) (h0 : 0 < b) : iN a - iN a / iN b * iN b = iN (a % b) := by
  have e := Nat.div_add_mod a b
  have e2 : a / b * b ≤ a := Nat.div_mul_le_self a b
  rw [iN_div ha hb h0, iN_mul, iN_sub e2]
  congr 1
  rw [Nat.mul_comm] at e
  omega
/-- the widths of the box -/
noncomputable def wN (bs : List bdy) (i t k : Nat) : Nat := (wdW bs i t k).toNat
theorem wN_z {t k : Nat} (B : BsM h bs) (hi' : i < bs.length) (hk : k < 4) (ht : t ≤ 4) : iZ (wdW bs i t k) = iN (wN bs i t k) ∧ 0 < wN bs i t k ∧ wN bs i t k ≤ 7993 := by
  have := wd_b (k := k) (t := t) B hi' hk ht
  refine ⟨?_, by unfold wN; omega, by unfold wN; omega⟩
  rw [← iZ_nat]
  congr 1
  unfold wN
  omega
/-- point m of the box -/
noncomputable def ptW (bs : List bdy) (i t m : Nat) : pt4 := ((t : Int) * loW bs i 0 + (m % wN bs i t 0 : Nat), (t : Int) * loW bs i 1 + (m / wN bs i t 0 % wN bs i t 1 : Nat), (t : Int) * loW bs i 2 + (m / wN bs i t 0 / wN bs i t 1 % wN bs i t 2 : Nat), (t : Int) * loW bs i 3 + (m / wN bs i t 0 / wN bs i t 1 / wN bs i t 2 : Nat))
end PTS
