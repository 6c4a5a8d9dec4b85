def npt (σ : St) (d : Nat) : Nat := gA σ 1 (d + 1) - gA σ 1 d
def prt (σ : St) (d i : Nat) : Option Nat := if i < gA σ 1 (d + 1) - gA σ 1 d then some (gA σ 2 (gA σ 1 d + i)) else none
def OKd (σ : St) (d : Nat) : Prop := d < 1500 ∧ gA σ 1 d ≤ gA σ 1 (d + 1) ∧ gA σ 1 (d + 1) ≤ 4000 ∧ gA σ 0 d < 12
/-- the remainder that is not below 0 -/
def fmodN (x : Int64) (m : Nat) : Nat := (x.toInt % (m : Int)).toNat
theorem fmodN_lt (x : Int64) {m : Nat} (h : 0 < m) : fmodN x m < m := by
  have h1 := Int.emod_nonneg x.toInt (show (m : Int) ≠ 0 by omega)
  have h2 := Int.emod_lt_of_pos x.toInt (show (0 : Int) < m by omega)
  simp only [fmodN]; omega
theorem emod_of_tmod (x : Int) {m : Int} (h : 0 < m) : x % m = if x.tmod m < 0 then x.tmod m + m else x.tmod m := by
  have h1 := Int.emod_nonneg x (show m ≠ 0 by omega)
  have h2 := Int.emod_lt_of_pos x h
  have e := Int.tmod_eq_emod (a := x) (b := m)
  split at e <;> split <;> omega
theorem xor_neg (x y : Int64) (hy : 0 ≤ y.toInt) : (x ^^^ y) < 0 ↔ x.toInt < 0 := by
  rw [Int64.lt_iff_toInt_lt, Int64.toInt_zero]
  have e1 : (x ^^^ y).toBitVec.msb = decide ((x ^^^ y).toInt < 0) := BitVec.msb_eq_toInt
  have e2 : x.toBitVec.msb = decide (x.toInt < 0) := BitVec.msb_eq_toInt
  have e3 : y.toBitVec.msb = decide (y.toInt < 0) := BitVec.msb_eq_toInt
  rw [Int64.toBitVec_xor, BitVec.msb_xor, e2, e3, show decide (y.toInt < 0) = false by simp; omega, Bool.xor_false] at e1
  have := decide_eq_decide.mp e1
  exact this.symm
theorem fmodL_nat (x : Int64) {m : Nat} (h : 0 < m) (hm : m < 2 ^ 31) : fmodL x (lN m) = lN (fmodN x m) := by
  have hy : (lN m).toInt = (m : Int) := pk_lT (by omega)
  have hl := fmodN_lt x h
  have hr := Jvm.Kit.i64_rem x (lN m)
  rw [hy] at hr
  have he := emod_of_tmod x.toInt (show (0 : Int) < m by omega)
  have hb1 := tmod_bounds (a := x.toInt) (show (0 : Int) < m by omega)
  have hx := xor_neg x (lN m) (by rw [hy]; omega)
  have e0 : ∀ z : Int64, z = 0 ↔ z.toInt = 0 := fun z => by rw [← Int64.toInt_inj, Int64.toInt_zero]
  have hsg : 0 ≤ x.toInt → 0 ≤ x.toInt.tmod m := fun q => Int.tmod_nonneg _ q
  have hsg2 : x.toInt ≤ 0 → x.toInt.tmod m ≤ 0 := fun q => by
    have := Int.tmod_nonneg (m : Int) (a := -x.toInt) (by omega)
    rw [Int.neg_tmod] at this; omega
  apply Int64.toInt_inj.mp
  rw [pk_lT (by omega)]
  have h1 := Int.emod_nonneg x.toInt (show (m : Int) ≠ 0 by omega)
  simp only [fmodL]
  by_cases hc : (x ^^^ lN m) < 0 ∧ ¬ (x - x / lN m * lN m) = 0
  · rw [if_pos hc, Int64.toInt_add, hr, hy, Int.bmod_eq_of_le (by omega) (by omega)]
    rw [hx, e0, hr] at hc
    have := hsg2 (by omega)
    simp only [fmodN]
    rw [if_pos (by omega)] at he; omega
  · rw [if_neg hc, hr]
    rw [hx, e0, hr] at hc
    simp only [fmodN]
    rw [if_neg (by
      intro q
      apply hc
      constructor
      · rcases Int.lt_or_le x.toInt 0 with z | z
        · exact z
        · have := hsg z; omega
      · omega)] at he
    omega

