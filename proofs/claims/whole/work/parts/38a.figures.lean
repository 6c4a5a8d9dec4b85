/-- the paper lies in the reference -/
def PTr (P : List Nat) (τ : St) : Prop := gN τ 4 = P.length ∧ (∀ i, i < P.length → gA τ 3 i = P.getD i 0) ∧ P.length ≤ 6000 ∧ ∀ b ∈ P, b < 256
theorem PTr.at {P : List Nat} {τ : St} (h : PTr P τ) (i : Nat) : (if i < gN τ 4 then some (gA τ 3 i) else none) = P[i]? := by
  rw [h.1]
  by_cases q : i < P.length
  · rw [if_pos q, h.2.1 i q, List.getD_eq_getElem?_getD, List.getElem?_eq_getElem q]; rfl
  · rw [if_neg q, List.getElem?_eq_none (by omega)]
theorem PTr.b {P : List Nat} {τ : St} (h : PTr P τ) (i : Nat) : ∀ k, P[i]? = some k → k < 256 := fun k hk => h.2.2.2 k (List.mem_of_getElem? hk)
theorem PTr.b31 {P : List Nat} {τ : St} (h : PTr P τ) (i : Nat) : ∀ k, P[i]? = some k → k < 2 ^ 31 := fun k hk => by have := h.b i k hk; omega
/-- but for the place and what is wrong all is the same -/
def xR (τ σ : St) : Prop := (∀ k, ¬ k = 12 → gN τ k = gN σ k) ∧ gA τ = gA σ ∧ gI τ = gI σ ∧ gJ τ = gJ σ ∧ gL τ = gL σ ∧ gP τ = gP σ
theorem xR.rf (σ : St) : xR σ σ := ⟨fun _ _ => rfl, rfl, rfl, rfl, rfl, rfl⟩
theorem xR.tr {a b c : St} (h : xR a b) (g : xR b c) : xR a c := ⟨fun k hk => (h.1 k hk).trans (g.1 k hk), h.2.1.trans g.2.1, h.2.2.1.trans g.2.2.1, h.2.2.2.1.trans g.2.2.2.1, h.2.2.2.2.1.trans g.2.2.2.2.1, h.2.2.2.2.2.trans g.2.2.2.2.2⟩
theorem xR_12 (τ : St) (n : Nat) : xR (sN τ 12 n) τ := ⟨fun _ hk => va_up_ne _ _ hk, rfl, rfl, rfl, rfl, rfl⟩
theorem xR_O (τ : St) (o : Option Nat) : xR (sO τ 0 o) τ := ⟨fun _ _ => rfl, rfl, rfl, rfl, rfl, rfl⟩
theorem PTr.xr {P : List Nat} {τ σ : St} (h : PTr P σ) (e : xR τ σ) : PTr P τ := ⟨(e.1 4 (by decide)).trans h.1, fun i hi => by rw [e.2.1]; exact h.2.1 i hi, h.2.2⟩
theorem xR_ars {τ σ : St} (h : xR τ σ) : ars τ = ars σ := by
  obtain ⟨h1, h2, h3, h4, h5, h6⟩ := h
  simp only [ars]
  rw [h1 0 (by decide), h1 1 (by decide), h2, h4, h6]
theorem xR.xg {τ σ : St} (h : xR τ σ) : xG τ σ := ⟨h.1 2 (by decide), h.1 3 (by decide), h.1 4 (by decide), h.1 5 (by decide), h.1 6 (by decide), congrFun h.2.1 3, congrFun h.2.2.1 0⟩
theorem TR.xr {n : Nat} {cl : Nat → List Nat} {nd : Nat → Nat × Int32} {mN : Nat → Int64} {τ σ : St} (h : TR n cl nd mN σ) (e : xR τ σ) : TR n cl nd mN τ := by
  obtain ⟨e1, e2, e3, e4, e5, e6⟩ := e
  obtain ⟨h1, h2, h3, h4, h5⟩ := h
  refine ⟨(e1 11 (by decide)).trans h1, fun x hx => ?_, fun x i j hx hj => ?_, h4, fun h0 => ?_⟩
  · rw [e2, e4, e5, e6]; exact h2 x hx
  · rw [e6]; exact h3 x i j hx hj
  · rw [e6]; exact h5 h0
theorem inR_fg {o : Option Nat} (ho : ∀ k, o = some k → k < 256) : inR (oI o) (nI 48) (nI 57) = isFg o := by
  cases o with
  | none => decide
  | some k =>
    have := ho k rfl
    rw [oI_some]
    simp only [inR, isFg]
    congr 1
    rw [eq_iff_iff, nI_leI (by decide) (by omega), nI_leI (by omega) (by decide)]
theorem isFg_some {o : Option Nat} (h : isFg o = true) : ∃ b, o = some b ∧ 48 ≤ b ∧ b ≤ 57 := by
  cases o with
  | none => cases h
  | some b => simp only [isFg, decide_eq_true_eq] at h; exact ⟨b, rfl, h⟩
/-- what n figures come to -/
def dv (P : List Nat) (j : Nat) : Nat → Nat
  | 0 => 0
  | n + 1 => 10 * dv P j n + (P.getD (j + n) 0 - 48)
theorem dv_pfV (P : List Nat) (j : Nat) : ∀ n, pfV P j n = min (dv P j n) 1099511627776
  | 0 => by simp [pfV, dv]
  | n + 1 => by rw [pfV, dv, dv_pfV P j n]; omega
theorem dv_lt {P : List Nat} {j : Nat} : ∀ n, (∀ i, i < n → isFg P[j + i]? = true) → dv P j n < 10 ^ n
  | 0, _ => by simp [dv]
  | n + 1, h => by
    have ih := dv_lt n (fun i hi => h i (by omega))
    obtain ⟨b, hb, h1, h2⟩ := isFg_some (h n (Nat.lt_succ_self _))
    have hg : P.getD (j + n) 0 = b := by rw [List.getD_eq_getElem?_getD, hb]; rfl
    rw [dv, hg, Nat.pow_succ]; omega
theorem dv_ge {P : List Nat} {j : Nat} (h0 : 49 ≤ P.getD j 0) : ∀ n, 10 ^ n ≤ dv P j (n + 1)
  | 0 => by
    have e : dv P j (0 + 1) = 10 * 0 + (P.getD (j + 0) 0 - 48) := rfl
    rw [e, Nat.add_zero, Nat.pow_zero]; omega
  | n + 1 => by
    have ih := dv_ge h0 n
    rw [dv, Nat.pow_succ]; omega
theorem pfN_end (P : List Nat) : ∀ (f i : Nat), P.length ≤ i + f → isFg P[i + pfN P f i]? = false ∧ ∀ j, j < pfN P f i → isFg P[i + j]? = true
  | 0, i, h => by
    refine ⟨?_, fun j hj => by simp only [pfN] at hj; omega⟩
    simp only [pfN, Nat.add_zero]
    rw [List.getElem?_eq_none (by omega)]; rfl
  | f + 1, i, h => by
    by_cases hc : isFg P[i]? = true
    · have ih := pfN_end P f (i + 1) (by omega)
      rw [pfN, if_pos hc]
      refine ⟨?_, ?_⟩
      · rw [show i + (pfN P f (i + 1) + 1) = i + 1 + pfN P f (i + 1) by omega]; exact ih.1
      · intro j hj
        cases j with
        | zero => exact hc
        | succ j => rw [show i + (j + 1) = i + 1 + j by omega]; exact ih.2 j (by omega)
    · rw [pfN, if_neg hc]
      refine ⟨by simpa using hc, fun j hj => by omega⟩
theorem rt32 (x : Int64) : x.toInt32.toInt64 = x ↔ (-2147483648 ≤ x.toInt ∧ x.toInt ≤ 2147483647) := by
  rw [← Int64.toInt_inj, Int32.toInt_toInt64, Int64.toInt_toInt32]
  constructor
  · intro h
    have h1 := Int.le_bmod (x := x.toInt) (m := 2 ^ 32) (by decide)
    have h2 := Int.bmod_lt (x := x.toInt) (m := 2 ^ 32) (by decide)
    rw [h] at h1 h2
    constructor <;> omega
  · intro h
    exact Int.bmod_eq_of_le (by omega) (by omega)
theorem num_rt (b : Bool) (v : Nat) : numIn b v = true ↔ (sgL b v).toInt32.toInt64 = sgL b v := by
  have h1 : (-2147483648 : Int64).toInt = -2147483648 := by decide
  have h2 : (lN 2147483647).toInt = 2147483647 := by decide
  rw [rt32]
  simp only [numIn, decide_eq_true_eq, Int64.lt_iff_toInt_lt, Int64.le_iff_toInt_le, h1, h2]
  omega
theorem num_big {b : Bool} {v : Nat} (h1 : 10 ^ 10 ≤ v) (h2 : v ≤ 1099511627776) : numIn b v = false := by
  cases hb : numIn b v with
  | false => rfl
  | true =>
    have h := (rt32 _).mp ((num_rt b v).mp hb)
    cases b with
    | true =>
      have e : (sgL true v).toInt = -(v : Int) := Int64.toInt_neg_ofNat_of_le (by omega)
      rw [e] at h; omega
    | false =>
      have e : (sgL false v).toInt = (v : Int) := Int64.toInt_ofNat_of_lt (by omega)
      rw [e] at h; omega
/-- a number that the reference takes for wrong -/
def fBd (P : List Nat) (i : Nat) : Bool := !pGood P i || (decide (P[pJ P i]? = some 48) && isFg P[pJ P i + 1]?)
theorem pGood_y {P : List Nat} {i : Nat} (h : (isFg P[pJ P i]? = true ∧ ¬ (pMi P i = true ∧ P[pJ P i]? = some 48)) ∧ numIn (pMi P i) (pW P (pJ P i)) = true) : pGood P i = true := by
  simp only [pGood, Bool.and_eq_true, Bool.not_eq_true', Bool.and_eq_false_iff, decide_eq_false_iff_not]
  refine ⟨⟨h.1.1, ?_⟩, h.2⟩
  by_cases q : pMi P i = true
  · exact Or.inr (fun z => h.1.2 ⟨q, z⟩)
  · exact Or.inl (by simpa using q)
theorem fg_1 {P : List Nat} {i : Nat} (h : ¬ (isFg P[pJ P i]? = true ∧ ¬ (pMi P i = true ∧ P[pJ P i]? = some 48))) : fBd P i = true ∧ pNe P i = pJ P i := by
  have hg : pGood P i = false := by
    cases hq : pGood P i with
    | false => rfl
    | true => exact absurd (pGood_x hq).1 h
  refine ⟨by rw [fBd, hg]; rfl, by rw [pNe, if_neg h]⟩
theorem fg_0 {P : List Nat} {i : Nat} (h : isFg P[pJ P i]? = true ∧ ¬ (pMi P i = true ∧ P[pJ P i]? = some 48)) (h0 : P[pJ P i]? = some 48) : pGood P i = true ∧ pNe P i = pJ P i + 1 ∧ pNv P i = nI 0 ∧ pMi P i = false := by
  have hw : pW P (pJ P i) = 0 := by rw [pW, if_pos h0]
  have hm : pMi P i = false := by
    cases hq : pMi P i with
    | false => rfl
    | true => exact absurd ⟨hq, h0⟩ h.2
  have hn : numIn (pMi P i) (pW P (pJ P i)) = true := by rw [hw, hm]; decide
  refine ⟨pGood_y ⟨h, hn⟩, by rw [pNe, if_pos h, if_pos hn, pEn, if_pos h0], by rw [pNv, hw, hm]; decide, hm⟩
theorem fg_2 {P : List Nat} {i : Nat} (h : isFg P[pJ P i]? = true ∧ ¬ (pMi P i = true ∧ P[pJ P i]? = some 48)) (h0 : P[pJ P i]? = some 48) (hf : isFg P[pJ P i + 1]? = true) : fBd P i = true ∧ pNe P i = pJ P i + 1 := by
  refine ⟨by rw [fBd, h0, hf]; simp, (fg_0 h h0).2.1⟩
theorem fg_3 {P : List Nat} {i : Nat} (h : isFg P[pJ P i]? = true ∧ ¬ (pMi P i = true ∧ P[pJ P i]? = some 48)) (h0 : P[pJ P i]? = some 48) (hf : isFg P[pJ P i + 1]? = false) : fBd P i = false ∧ pNe P i = pJ P i + 1 ∧ pNv P i = nI 0 := by
  obtain ⟨a, b, c, _⟩ := fg_0 h h0
  exact ⟨by rw [fBd, a, hf]; simp, b, c⟩
theorem fg_4 {P : List Nat} {i : Nat} (hl : P.length ≤ 6000) (h : isFg P[pJ P i]? = true ∧ ¬ (pMi P i = true ∧ P[pJ P i]? = some 48)) (h0 : ¬ P[pJ P i]? = some 48) {V : Nat} (hV : V = dv P (pJ P i) (min (pfN P 6001 (pJ P i)) 11)) :
    (¬ 10 < pfN P 6001 (pJ P i) → (sgL (pMi P i) V).toInt32.toInt64 = sgL (pMi P i) V → fBd P i = false ∧ pNe P i = pJ P i + pfN P 6001 (pJ P i) ∧ pNv P i = (sgL (pMi P i) V).toInt32) ∧
    ((10 < pfN P 6001 (pJ P i) ∨ ¬ (sgL (pMi P i) V).toInt32.toInt64 = sgL (pMi P i) V) → fBd P i = true ∧ pNe P i = i) := by
  obtain ⟨b, hb, hb1, hb2⟩ := isFg_some h.1
  have hgd : P.getD (pJ P i) 0 = b := by rw [List.getD_eq_getElem?_getD, hb]; rfl
  have hb0 : ¬ b = 48 := fun z => h0 (by rw [hb, z])
  have hlt := isFg_len h.1
  obtain ⟨hend, hall⟩ := pfN_end P 6001 (pJ P i) (by omega)
  have hw : pW P (pJ P i) = pfV P (pJ P i) (pfN P 6001 (pJ P i)) := by rw [pW, if_neg h0]
  have hd0 : (decide (P[pJ P i]? = some 48) && isFg P[pJ P i + 1]?) = false := by rw [decide_eq_false h0]; rfl
  obtain ⟨N, hNe⟩ : ∃ N, pfN P 6001 (pJ P i) = N := ⟨_, rfl⟩
  rw [hNe] at hend hall hw hV
  rw [hNe]
  have hsm : ¬ 10 < N → pW P (pJ P i) = V := by
    intro hN
    have h1 := dv_lt (P := P) (j := pJ P i) N hall
    have h2 : 10 ^ N ≤ 10 ^ 10 := Nat.pow_le_pow_right (by decide) (by omega)
    have h3 : (10 : Nat) ^ 10 = 10000000000 := by decide
    rw [hw, dv_pfV, hV, Nat.min_eq_left (show N ≤ 11 by omega)]
    omega
  constructor
  · intro hN hr
    have hn : numIn (pMi P i) (pW P (pJ P i)) = true := by rw [hsm hN]; exact (num_rt _ _).mpr hr
    refine ⟨by rw [fBd, pGood_y ⟨h, hn⟩, hd0]; rfl, ?_, by rw [pNv, hsm hN]⟩
    rw [pNe, if_pos h, if_pos hn, pEn, if_neg h0, hNe]
  · intro hq
    have hn : numIn (pMi P i) (pW P (pJ P i)) = false := by
      by_cases hN : 10 < N
      · rw [hw, dv_pfV]
        refine num_big ?_ (by omega)
        have h1 := dv_ge (P := P) (j := pJ P i) (by omega) (N - 1)
        rw [show N - 1 + 1 = N by omega] at h1
        have h2 : 10 ^ 10 ≤ 10 ^ (N - 1) := Nat.pow_le_pow_right (by decide) (by omega)
        have h3 : (10 : Nat) ^ 10 = 10000000000 := by decide
        omega
      · rw [hsm hN]
        rcases hq with z | z
        · exact absurd z hN
        · cases hx : numIn (pMi P i) V with
          | false => rfl
          | true => exact absurd ((num_rt _ _).mp hx) z
    have hg : pGood P i = false := by
      cases hx : pGood P i with
      | false => rfl
      | true => exact absurd (pGood_x hx).2 (by rw [hn]; decide)
    exact ⟨by rw [fBd, hg]; rfl, by rw [pNe, if_pos h, if_neg (by rw [hn]; decide)]⟩
