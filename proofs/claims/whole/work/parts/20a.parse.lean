/-- paper read as a deed written: figures -/
def pfN (P : List Nat) : Nat → Nat → Nat
  | 0, _ => 0
  | f + 1, i => if isFg P[i]? = true then pfN P f (i + 1) + 1 else 0
def pfV (P : List Nat) (i : Nat) : Nat → Nat
  | 0 => 0
  | n + 1 => min (10 * pfV P i n + (P.getD (i + n) 0 - 48)) 1099511627776
def pMi (P : List Nat) (i : Nat) : Bool := decide (P[i]? = some 45)
def pJ (P : List Nat) (i : Nat) : Nat := i + if pMi P i = true then 1 else 0
def pEn (P : List Nat) (j : Nat) : Nat := if P[j]? = some 48 then j + 1 else j + pfN P 6001 j
def pW (P : List Nat) (j : Nat) : Nat := if P[j]? = some 48 then 0 else pfV P j (pfN P 6001 j)
def pGood (P : List Nat) (i : Nat) : Bool := isFg P[pJ P i]? && !(pMi P i && decide (P[pJ P i]? = some 48)) && numIn (pMi P i) (pW P (pJ P i))
def pNe (P : List Nat) (i : Nat) : Nat := if isFg P[pJ P i]? = true ∧ ¬ (pMi P i = true ∧ P[pJ P i]? = some 48) then (if numIn (pMi P i) (pW P (pJ P i)) = true then pEn P (pJ P i) else i) else pJ P i
def pNv (P : List Nat) (i : Nat) : Int32 := (sgL (pMi P i) (pW P (pJ P i))).toInt32
def pKd (P : List Nat) (i : Nat) : Option Nat := match P[i]? with
  | none => none
  | some b => if 97 ≤ b ∧ b ≤ 108 then some (b - 97) else none
abbrev Opn : Type := List (Nat × Int32 × Nat)
def incT : Opn → Opn
  | [] => []
  | (k, v, n) :: O => (k, v, n + 1) :: O
def szO : Opn → Nat
  | [] => 0
  | (_, _, n) :: O => n + szO O
def szC (O : Opn) : Nat := szO O + if O = [] then 1 else 0
theorem szC_inc (O : Opn) : szC (incT O) = szO O + 1 := by
  rcases O with _ | ⟨⟨k, v, n⟩, O⟩
  · simp [szC, incT, szO]
  · simp [szC, incT, szO]; omega
theorem szC_cons (q : Nat × Int32 × Nat) (O : Opn) : szC (q :: O) = szO (q :: O) := by simp [szC]
theorem inc_len (O : Opn) : (incT O).length = O.length := by rcases O with _ | ⟨⟨k, v, n⟩, O⟩ <;> rfl
/-- none: a letter comes; some (some ..): behind a number; some none: behind a deed -/
def prs (P : List Nat) : Nat → Option (Option (Nat × Int32)) → Nat → Opn → List Op → Option Nat × List Op
  | 0, _, at_, _, ops => (some at_, ops)
  | f + 1, none, at_, O, ops => match pKd P at_ with
    | none => (some at_, ops)
    | some k => if pGood P (at_ + 1) = true then prs P f (some (some (k, pNv P (at_ + 1)))) (pNe P (at_ + 1)) O ops else (some (pNe P (at_ + 1)), ops)
  | f + 1, some (some kv), at_, O, ops => if P[at_]? = some 40 then prs P f none (at_ + 1) ((kv.1, kv.2, 0) :: O) ops else prs P f (some none) at_ (incT O) (ops ++ [(kv.1, kv.2, 0)])
  | _ + 1, some none, at_, [], ops => (if at_ = P.length then none else some at_, ops)
  | f + 1, some none, at_, q :: O, ops => if P[at_]? = some 41 then prs P f (some none) (at_ + 1) (incT O) (ops ++ [q]) else if P[at_]? = some 44 then prs P f none (at_ + 1) (q :: O) ops else (some at_, ops)
theorem prs_ext (P : List Nat) : ∀ (f : Nat) (md : Option (Option (Nat × Int32))) (at_ : Nat) (O : Opn) (ops : List Op), ∃ t, (prs P f md at_ O ops).2 = ops ++ t
  | 0, _, _, _, ops => ⟨[], by simp [prs]⟩
  | f + 1, none, at_, O, ops => by
    simp only [prs]
    split
    · exact ⟨[], by simp⟩
    · split
      · exact prs_ext P f _ _ _ _
      · exact ⟨[], by simp⟩
  | f + 1, some (some kv), at_, O, ops => by
    simp only [prs]
    split
    · exact prs_ext P f _ _ _ _
    · obtain ⟨t, ht⟩ := prs_ext P f (some none) at_ (incT O) (ops ++ [(kv.1, kv.2, 0)])
      exact ⟨(kv.1, kv.2, 0) :: t, by rw [ht]; simp⟩
  | f + 1, some none, at_, [], ops => ⟨[], by simp [prs]⟩
  | f + 1, some none, at_, q :: O, ops => by
    simp only [prs]
    split
    · obtain ⟨t, ht⟩ := prs_ext P f (some none) (at_ + 1) (incT O) (ops ++ [q])
      exact ⟨q :: t, by rw [ht]; simp⟩
    · split
      · exact prs_ext P f _ _ _ _
      · exact ⟨[], by simp⟩
def PAT (P : List Nat) (σ : St) : Prop := gN σ 2 = P.length ∧ ∀ i, i < P.length → gA σ 12 i = P.getD i 0
theorem PAT.at {P : List Nat} {σ : St} (h : PAT P σ) (i : Nat) : patA σ i = P[i]? := by
  rw [patA, h.1]
  by_cases q : i < P.length
  · rw [if_pos q, h.2 i q, List.getD_eq_getElem?_getD, List.getElem?_eq_getElem q]; rfl
  · rw [if_neg q, List.getElem?_eq_none (by omega)]
theorem pat_N {P : List Nat} {σ : St} (h : PAT P σ) : ∀ (f i : Nat), fgN σ f i = pfN P f i
  | 0, _ => rfl
  | f + 1, i => by rw [fgN, pfN, h.at, pat_N h f (i + 1)]
theorem isFg_len {P : List Nat} {i : Nat} (h : isFg P[i]? = true) : i < P.length := by
  by_cases q : i < P.length
  · exact q
  · rw [List.getElem?_eq_none (by omega)] at h; cases h
theorem pfN_le (P : List Nat) : ∀ (f i : Nat), i + pfN P f i ≤ max i P.length
  | 0, i => by simp [pfN]; omega
  | f + 1, i => by
    rw [pfN]; split
    · next h => have h1 := pfN_le P f (i + 1); have h2 := isFg_len h; omega
    · omega
theorem pat_V {P : List Nat} {σ : St} (h : PAT P σ) (i : Nat) : ∀ n, i + n ≤ P.length → fgV σ i n = pfV P i n
  | 0, _ => rfl
  | n + 1, hn => by rw [fgV, pfV, pat_V h i n (by omega), h.2 (i + n) (by omega)]
theorem pat_M {P : List Nat} {σ : St} (h : PAT P σ) : snM σ = pMi P (gN σ 5) := by rw [snM, pMi, h.at]
theorem pat_I {P : List Nat} {σ : St} (h : PAT P σ) : snI σ = pJ P (gN σ 5) := by rw [snI, pJ, pat_M h]
theorem pat_E {P : List Nat} {σ : St} (h : PAT P σ) (j : Nat) : fgE σ j = pEn P j := by rw [fgE, pEn, h.at, pat_N h]
theorem pat_W {P : List Nat} {σ : St} (h : PAT P σ) {j : Nat} (hj : j ≤ P.length) : fgW σ j = pW P j := by
  rw [fgW, pW, h.at, pat_N h, pat_V h j _ (by have := pfN_le P 6001 j; omega)]
theorem pJ_le {P : List Nat} {i : Nat} (h : i ≤ P.length) : pJ P i ≤ P.length := by
  simp only [pJ, pMi]
  by_cases q : P[i]? = some 45
  · have : i < P.length := by
      by_cases z : i < P.length
      · exact z
      · rw [List.getElem?_eq_none (by omega)] at q; cases q
    simp [q]; omega
  · simp [q]; exact h
theorem pJ_ge (P : List Nat) (i : Nat) : i ≤ pJ P i := by simp only [pJ]; omega
theorem pat_OK {P : List Nat} {σ : St} (h : PAT P σ) (h5 : gN σ 5 ≤ P.length) : snOK σ = pGood P (gN σ 5) := by
  rw [snOK, pGood, pat_I h, pat_M h, h.at, pat_W h (pJ_le h5)]
theorem pGood_x {P : List Nat} {i : Nat} (h : pGood P i = true) : (isFg P[pJ P i]? = true ∧ ¬ (pMi P i = true ∧ P[pJ P i]? = some 48)) ∧ numIn (pMi P i) (pW P (pJ P i)) = true := by
  simp only [pGood, Bool.and_eq_true, Bool.not_eq_true', Bool.and_eq_false_iff, decide_eq_false_iff_not] at h
  refine ⟨⟨h.1.1, fun z => ?_⟩, h.2⟩
  rcases h.1.2 with q | q
  · rw [z.1] at q; cases q
  · exact q z.2
theorem pat_S {P : List Nat} {σ : St} (h : PAT P σ) (h5 : gN σ 5 ≤ P.length) : gN (snS σ) 5 = pNe P (gN σ 5) ∧ (pGood P (gN σ 5) = true → gI (snS σ) 1 = pNv P (gN σ 5)) := by
  constructor
  · show (if isFg (patA σ (snI σ)) = true ∧ ¬ (snM σ = true ∧ patA σ (snI σ) = some 48) then (if numIn (snM σ) (fgW σ (snI σ)) = true then fgE σ (snI σ) else gN σ 5) else snI σ) = _
    rw [pNe, pat_I h, pat_M h, h.at, pat_W h (pJ_le h5), pat_E h]
  · intro hg
    have hx := pGood_x hg
    show (if (isFg (patA σ (snI σ)) = true ∧ ¬ (snM σ = true ∧ patA σ (snI σ) = some 48)) ∧ numIn (snM σ) (fgW σ (snI σ)) = true then (sgL (snM σ) (fgW σ (snI σ))).toInt32 else gI σ 1) = _
    rw [pNv, pat_I h, pat_M h, h.at, pat_W h (pJ_le h5), if_pos hx]
theorem pGood_pos {P : List Nat} {i : Nat} (hi : i ≤ P.length) (h : pGood P i = true) : i + 1 ≤ pNe P i ∧ pNe P i ≤ P.length := by
  have hx := pGood_x h
  rw [pNe, if_pos hx.1, if_pos hx.2, pEn]
  have h1 := pJ_ge P i
  have h2 := isFg_len hx.1.1
  split
  · omega
  · have h3 := pfN_le P 6001 (pJ P i)
    have h4 : pfN P 6001 (pJ P i) = pfN P 6000 (pJ P i + 1) + 1 := by
      show (if isFg P[pJ P i]? = true then pfN P 6000 (pJ P i + 1) + 1 else 0) = _
      rw [if_pos hx.1.1]
    omega
theorem pNe_le {P : List Nat} {i : Nat} (hi : i ≤ P.length) : pNe P i ≤ P.length := by
  simp only [pNe]
  split
  · split
    · next h1 h2 =>
      simp only [pEn]
      have h3 := pfN_le P 6001 (pJ P i)
      have h4 := isFg_len h1.1
      split <;> omega
    · exact hi
  · exact pJ_le hi
theorem pat_K {P : List Nat} {σ : St} (h : PAT P σ) (hb : ∀ b ∈ P, b < 256) : skB σ = (pKd P (gN σ 5)).isSome ∧ ∀ k, pKd P (gN σ 5) = some k → skV σ = nI k ∧ k < 12 ∧ gN σ 5 < P.length := by
  rw [skB, skV, h.at, pKd]
  rcases hq : P[gN σ 5]? with _ | b
  · simp only [oI]
    refine ⟨?_, fun k hk => by cases hk⟩
    show hasD 12 ((-1 : Int32) - nI 97) = false
    decide
  · have hlt : gN σ 5 < P.length := (List.getElem?_eq_some_iff.mp hq).1
    have hb : b < 256 := hb b (List.mem_of_getElem? hq)
    simp only [oI]
    by_cases q : 97 ≤ b ∧ b ≤ 108
    · rw [if_pos q]
      have e : nI b - nI 97 = nI (b - 97) := pk_sub q.1
      rw [e]
      refine ⟨?_, fun k hk => ?_⟩
      · rw [hasD_nI (by decide) (by omega)]; rfl
      · have : k = b - 97 := (Option.some.inj hk).symm
        subst this
        exact ⟨rfl, by omega, hlt⟩
    · rw [if_neg q]
      refine ⟨?_, fun k hk => by cases hk⟩
      show hasD 12 (nI b - nI 97) = false
      by_cases z : b < 97
      · exact hasD_f1 (pk_sneg (by decide) z)
      · rw [show nI b - nI 97 = nI (b - 97) from pk_sub (by omega)]
        exact hasD_f2 (by rw [Int32.le_iff_toInt_le, nI_toInt (by omega), nI_toInt (by omega)]; omega)
