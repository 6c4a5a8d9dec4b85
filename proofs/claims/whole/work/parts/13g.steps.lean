/-- a state with the steps' own two numbers set -/
def ee (σ : St) (x : Nat) (y : Int32) : St := sI (sN σ 14 x) 3 y
theorem va_comm {α : Type} (f : Nat → α) {i j : Nat} (x y : α) (h : i ≠ j) : va_up (va_up f i x) j y = va_up (va_up f j y) i x := by
  funext q; simp only [va_up]
  by_cases h1 : q = j
  · subst h1; rw [if_pos rfl, if_neg (fun e => h e.symm), if_pos rfl]
  · rw [if_neg h1]; by_cases h2 : q = i
    · rw [if_pos h2, if_pos h2]
    · rw [if_neg h2, if_neg h2, if_neg h1]
theorem ee_sN {σ : St} {x : Nat} {y : Int32} {k : Nat} {v : Nat} (h : 14 ≠ k) : sN (ee σ x y) k v = ee (sN σ k v) x y := by
  simp only [ee, sN, sI]; rw [va_comm _ _ _ h]
theorem ee_sI {σ : St} {x : Nat} {y : Int32} {k : Nat} {v : Int32} (h : 3 ≠ k) : sI (ee σ x y) k v = ee (sI σ k v) x y := by
  simp only [ee, sN, sI]; rw [va_comm _ _ _ h]
theorem ee_sA (σ : St) (x : Nat) (y : Int32) (k : Nat) (v : Nat → Nat) : sA (ee σ x y) k v = ee (sA σ k v) x y := rfl
theorem ee_sJ (σ : St) (x : Nat) (y : Int32) (k : Nat) (v : Nat → Int32) : sJ (ee σ x y) k v = ee (sJ σ k v) x y := rfl
theorem ee_sL (σ : St) (x : Nat) (y : Int32) (k : Nat) (v : Nat → Int64) : sL (ee σ x y) k v = ee (sL σ k v) x y := rfl
theorem ee_sB (σ : St) (x : Nat) (y : Int32) (k : Nat) (v : Bool) : sB (ee σ x y) k v = ee (sB σ k v) x y := rfl
theorem ee_sZ (σ : St) (x : Nat) (y : Int32) (k : Nat) (v : Nat → Bool) : sZ (ee σ x y) k v = ee (sZ σ k v) x y := rfl
theorem ee_gA (σ : St) (x : Nat) (y : Int32) : gA (ee σ x y) = gA σ := rfl
theorem ee_gJ (σ : St) (x : Nat) (y : Int32) : gJ (ee σ x y) = gJ σ := rfl
theorem ee_gL (σ : St) (x : Nat) (y : Int32) : gL (ee σ x y) = gL σ := rfl
theorem ee_gB (σ : St) (x : Nat) (y : Int32) : gB (ee σ x y) = gB σ := rfl
theorem ee_gZ (σ : St) (x : Nat) (y : Int32) : gZ (ee σ x y) = gZ σ := rfl
theorem ee_gN {σ : St} {x : Nat} {y : Int32} {k : Nat} (h : k ≠ 14) : gN (ee σ x y) k = gN σ k := by
  show va_up σ.1 14 x k = _; rw [va_up_ne _ _ h]; rfl
theorem ee_gI {σ : St} {x : Nat} {y : Int32} {k : Nat} (h : k ≠ 3) : gI (ee σ x y) k = gI σ k := by
  show va_up σ.2.2.1 3 y k = _; rw [va_up_ne _ _ h]; rfl
theorem ee_14 (σ : St) (x z : Nat) (y : Int32) : sN (ee σ x y) 14 z = ee σ z y := by simp only [ee, sN, sI, bx_uu]
theorem ee_3 (σ : St) (x : Nat) (y z : Int32) : sI (ee σ x y) 3 z = ee σ x z := by simp only [ee, sN, sI, bx_uu]
theorem ee_npt (σ : St) (x : Nat) (y : Int32) (d : Nat) : npt (ee σ x y) d = npt σ d := rfl
theorem ee_prt (σ : St) (x : Nat) (y : Int32) (d i : Nat) : prt (ee σ x y) d i = prt σ d i := rfl
theorem ee_pAdds (σ : St) (x : Nat) (y : Int32) (L : List Nat) : pAdds (ee σ x y) L = ee (pAdds σ L) x y := by
  simp only [pAdds, pAddsG, ee_gA, ee_gN (show (3 : Nat) ≠ 14 by decide), ee_gB, ee_sA, ee_sN (show (14 : Nat) ≠ 3 by decide), ee_sB]
theorem ee_dBind (σ : St) (x : Nat) (y : Int32) (k : Nat) (v : Int32) (n : Nat) : dBind (ee σ x y) k v n = ee (dBind σ k v n) x y := by
  simp only [dBind, dAdd, ee_gA, ee_gJ, ee_gN (show (0 : Nat) ≠ 14 by decide), ee_gN (show (1 : Nat) ≠ 14 by decide), ee_sA, ee_sJ, ee_sN (show (14 : Nat) ≠ 0 by decide), ee_sN (show (14 : Nat) ≠ 1 by decide)]
theorem ite_ee {c : Prop} {q : Decidable c} (A B : St) (x : Nat) (y : Int32) : (if c then ee A x y else ee B x y) = ee (if c then A else B) x y := by
  by_cases h : c
  · rw [if_pos h, if_pos h]
  · rw [if_neg h, if_neg h]
theorem ee_tEnter (σ : St) (x : Nat) (y : Int32) (k d : Nat) : tEnter (ee σ x y) k d = ee (tEnter σ k d) x y := by
  simp only [tEnter, ee_gN (show (12 : Nat) ≠ 14 by decide)]
  by_cases h1 : gN σ 12 = 21
  · simp only [if_pos h1]; rfl
  · by_cases h2 : gN σ 12 = 23
    · simp only [if_neg h1, if_pos h2]; rfl
    · by_cases h3 : gN σ 12 = 24
      · simp only [if_neg h1, if_neg h2, if_pos h3]; rfl
      · by_cases h4 : gN σ 12 = 26
        · simp only [if_neg h1, if_neg h2, if_neg h3, if_pos h4, tE26, ee_pAdds, ee_gA, ee_gJ, ee_npt]; rfl
        · by_cases h5 : gN σ 12 = 27
          · simp only [if_neg h1, if_neg h2, if_neg h3, if_neg h4, if_pos h5]
            simp only [tE27, ee_gA, ee_gJ, ee_gI (show (4 : Nat) ≠ 3 by decide), ee_gI (show (5 : Nat) ≠ 3 by decide), ee_sB]
          · by_cases h6 : gN σ 12 = 28
            · simp only [if_neg h1, if_neg h2, if_neg h3, if_neg h4, if_neg h5, if_pos h6]
              simp only [tE28, kpt, lfo, ee_gA, ee_gJ, ee_gZ, ee_gL, ee_gB, ee_npt, ee_gI (show (6 : Nat) ≠ 3 by decide), ee_gN (show (15 : Nat) ≠ 14 by decide), ee_sA, ee_sZ, ee_sN (show (14 : Nat) ≠ 15 by decide)]; rfl
            · simp only [if_neg h1, if_neg h2, if_neg h3, if_neg h4, if_neg h5, if_neg h6]
theorem ee_visS (σ : St) (x : Nat) (y : Int32) (k d : Nat) : visS (ee σ x y) k d = ee (visS σ k d) x y := by
  have hv : visPre (ee σ x y) k d = ee (visPre σ k d) x y := by
    simp only [visPre, ee_gA, ee_gN (show (9 : Nat) ≠ 14 by decide), ee_gN (show (10 : Nat) ≠ 14 by decide), ee_sA, ee_sN (show (14 : Nat) ≠ 9 by decide), ee_sN (show (14 : Nat) ≠ 10 by decide)]
  have hh : ∀ w, halt (ee σ x y) w = ee (halt σ w) x y := fun w => by
    simp only [halt, ee_gN (show (12 : Nat) ≠ 14 by decide), ee_sI (show (3 : Nat) ≠ 2 by decide), ee_sB]
  simp only [visS, ee_gN (show (9 : Nat) ≠ 14 by decide), ee_gN (show (13 : Nat) ≠ 14 by decide), hv, hh, ee_tEnter]
  by_cases h1 : gN σ 9 = 20000
  · simp only [if_pos h1]
  · by_cases h2 : gN σ 13 < k
    · simp only [if_neg h1, if_pos h2]
    · simp only [if_neg h1, if_neg h2]
theorem ee_tChS (σ : St) (x : Nat) (y : Int32) (k d t : Nat) : tChS (ee σ x y) k d t = ee (tChS σ k d t) x y := by
  simp only [tChS, ee_gN (show (12 : Nat) ≠ 14 by decide)]
  by_cases h1 : gN σ 12 = 24
  · simp only [if_pos h1]
    show (if gA σ 9 k = d then ee σ x y else ee (sA σ 9 (va_up (gA σ 9) (k + 1) (gA σ 2 (gA σ 1 (gA σ 9 k) + t)))) x y) = ee (tC24 σ k d t) x y
    rw [ite_ee]; rfl
  · by_cases h2 : gN σ 12 = 26
    · simp only [if_neg h1, if_pos h2, tC26, ee_pAdds, ee_gB, ee_sB]
    · simp only [if_neg h1, if_neg h2]
theorem ee_tChR (σ : St) (x : Nat) (y : Int32) (k d t : Nat) : tChR (ee σ x y) k d t = tChR σ k d t := by
  simp only [tChR, ee_gN (show (12 : Nat) ≠ 14 by decide), tC26r, ee_pAdds, ee_gB, ee_prt]
  rfl
theorem ee_tLeave (σ : St) (x : Nat) (y : Int32) (k d : Nat) : tLeave (ee σ x y) k d = ee (tLeave σ k d) x y := by
  simp only [tLeave, ee_gN (show (12 : Nat) ≠ 14 by decide)]
  by_cases h1 : gN σ 12 = 23
  · simp only [if_pos h1]; rfl
  · by_cases h2 : gN σ 12 = 26
    · simp only [if_neg h1, if_pos h2, tL26, ee_pAdds, ee_npt]; rfl
    · by_cases h3 : gN σ 12 = 28
      · simp only [if_neg h1, if_neg h2, if_pos h3, tL28, ee_gB, ee_gZ, ee_gA, ee_gJ, ee_dBind]
        by_cases h4 : gB σ 3 = true ∧ gZ σ 0 k = true
        · simp only [if_pos h4]
        · simp only [if_neg h4]
      · simp only [if_neg h1, if_neg h2, if_neg h3]
theorem ee_tTake (σ : St) (x : Nat) (y : Int32) (k d t : Nat) : tTake (ee σ x y) k d t = ee (tTake σ k d t) x y := by
  simp only [tTake, ee_gN (show (12 : Nat) ≠ 14 by decide)]
  by_cases h1 : gN σ 12 = 21
  · simp only [if_pos h1]
    show (if gA σ 0 d = 9 then (if t = 0 then ee (sL σ 1 (va_up (gL σ 1) k (gL σ 0 (k + 1)))) x y else if gL σ 1 k = gL σ 0 (k + 1) then ee σ x y else ee (sL σ 0 (va_up (gL σ 0) k (lN 0))) x y) else if gA σ 0 d = 0 ∨ gA σ 0 d = 11 then ee σ x y else ee (sL σ 0 (va_up (gL σ 0) k (wUp (gA σ 0 d) (gJ σ 0 d) t (gL σ 0 k) (gL σ 0 (k + 1))))) x y) = ee (tT21 σ k d t) x y
    simp only [ite_ee]; rfl
  · by_cases h2 : gN σ 12 = 23
    · simp only [if_neg h1, if_pos h2]; rfl
    · by_cases h3 : gN σ 12 = 28
      · simp only [if_neg h1, if_neg h2, if_pos h3]; rfl
      · simp only [if_neg h1, if_neg h2, if_neg h3]
theorem ee_nxtS (σ : St) (x : Nat) (y : Int32) (k : Nat) : nxtS (ee σ x y) k = ee (nxtS σ k) x y := by
  have h1 : ∀ t, nxt1 (ee σ x y) k t = ee (nxt1 σ k t) x y := fun t => rfl
  simp only [nxtS, ee_gA, ee_npt, h1, ee_tChS]
  by_cases h : gA σ 7 k < npt σ (gA σ 6 k)
  · simp only [if_pos h]
  · simp only [if_neg h]
theorem ee_nxtR (σ : St) (x : Nat) (y : Int32) (k : Nat) : nxtR (ee σ x y) k = nxtR σ k := by
  have h1 : ∀ t, nxt1 (ee σ x y) k t = ee (nxt1 σ k t) x y := fun t => rfl
  simp only [nxtR, ee_gA, ee_npt, h1, ee_tChR]
theorem ee_preN {σ : St} {x : Nat} {y : Int32} {k : Nat} (h : preN σ k) : preN (ee σ x y) k := h
theorem ee_pL {σ : St} {x : Nat} {y : Int32} {k d : Nat} (h : pL σ k d) : pL (ee σ x y) k d := h
theorem ee_pT {σ : St} {x : Nat} {y : Int32} {k d t : Nat} (h : pT σ k d t) : pT (ee σ x y) k d t := h
theorem ee_preV {σ : St} {x : Nat} {y : Int32} {k d : Nat} (h : preV σ k d) : preV (ee σ x y) k d := by
  have hv : visPre (ee σ x y) k d = ee (visPre σ k d) x y := by
    simp only [visPre, ee_gA, ee_gN (show (9 : Nat) ≠ 14 by decide), ee_gN (show (10 : Nat) ≠ 14 by decide), ee_sA, ee_sN (show (14 : Nat) ≠ 9 by decide), ee_sN (show (14 : Nat) ≠ 10 by decide)]
  exact ⟨h.1, h.2.1, h.2.2.1, h.2.2.2.1, h.2.2.2.2.1, fun a b => ⟨(h.2.2.2.2.2 a b).1, by rw [hv]; exact (h.2.2.2.2.2 a b).2⟩⟩
theorem ee_ovr (σ : St) (x : Nat) (y : Int32) : ovr (ee σ x y) = ovr σ := by simp only [ovr, ee_gB, ee_gN (show (12 : Nat) ≠ 14 by decide)]
theorem ee_self (σ : St) (x : Nat) : sN σ 14 x = ee σ x (gI σ 3) := by
  have : gI σ 3 = gI (sN σ 14 x) 3 := rfl
  rw [ee, this, sI_self]

