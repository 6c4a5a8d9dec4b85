/-- the walk of a deed d that is open at depth k, its turns from t on -/
def wlk (k d t : Nat) (σ : St) : St :=
  if ht : t < npt σ d ∧ t < 4000 then
    match tChR (nxt1 σ k t) k d t with
    | none => tLeave (tChS (nxt1 σ k t) k d t) k d
    | some p =>
      if hp : p < d then
        if ovr (visS (tChS (nxt1 σ k t) k d t) (k + 1) p) = true then visS (tChS (nxt1 σ k t) k d t) (k + 1) p
        else if ovr (wlk (k + 1) p 0 (visS (tChS (nxt1 σ k t) k d t) (k + 1) p)) = true then wlk (k + 1) p 0 (visS (tChS (nxt1 σ k t) k d t) (k + 1) p)
        else wlk k d (t + 1) (tTake (wlk (k + 1) p 0 (visS (tChS (nxt1 σ k t) k d t) (k + 1) p)) k d t)
      else σ
  else tLeave σ k d
termination_by (d, 4000 - t)
decreasing_by
  · exact Prod.Lex.left _ _ hp
  · exact Prod.Lex.right _ (by omega)
/-- the walk asks nothing that isn't there -/
def OKw (k d t : Nat) (σ : St) : Prop :=
  isT (gN σ 12) ∧ k < 1501 ∧ OKd σ d ∧ gA σ 6 k = d ∧ gA σ 7 k = t ∧ ovr σ = false ∧
  if ht : t < npt σ d ∧ t < 4000 then
    pC (nxt1 σ k t) k d t ∧
    match tChR (nxt1 σ k t) k d t with
    | none => pL (tChS (nxt1 σ k t) k d t) k d ∧ (ovr (tChS (nxt1 σ k t) k d t) = true → gN σ 12 = 26 ∧ tLeave (tChS (nxt1 σ k t) k d t) k d = tChS (nxt1 σ k t) k d t) ∧ gA (tChS (nxt1 σ k t) k d t) 6 k = d ∧ ovr (tLeave (tChS (nxt1 σ k t) k d t) k d) = ovr (tChS (nxt1 σ k t) k d t)
    | some p =>
      if hp : p < d then
        preV (tChS (nxt1 σ k t) k d t) (k + 1) p ∧ ovr (tChS (nxt1 σ k t) k d t) = false ∧
        (ovr (visS (tChS (nxt1 σ k t) k d t) (k + 1) p) = false → OKw (k + 1) p 0 (visS (tChS (nxt1 σ k t) k d t) (k + 1) p) ∧
            pT (wlk (k + 1) p 0 (visS (tChS (nxt1 σ k t) k d t) (k + 1) p)) k d t ∧
            gA (wlk (k + 1) p 0 (visS (tChS (nxt1 σ k t) k d t) (k + 1) p)) 6 k = d ∧ gA (wlk (k + 1) p 0 (visS (tChS (nxt1 σ k t) k d t) (k + 1) p)) 7 k = t + 1 ∧
          (ovr (wlk (k + 1) p 0 (visS (tChS (nxt1 σ k t) k d t) (k + 1) p)) = false →
            OKw k d (t + 1) (tTake (wlk (k + 1) p 0 (visS (tChS (nxt1 σ k t) k d t) (k + 1) p)) k d t)))
      else False
  else pL σ k d ∧ ovr (tLeave σ k d) = false
termination_by (d, 4000 - t)
decreasing_by
  · exact Prod.Lex.left _ _ hp
  · exact Prod.Lex.right _ (by omega)
theorem wlk_end {k d t : Nat} {σ : St} (h : ¬ (t < npt σ d ∧ t < 4000)) : wlk k d t σ = tLeave σ k d := by
  rw [wlk, dif_neg h]
theorem wlk_none {k d t : Nat} {σ : St} (h : t < npt σ d ∧ t < 4000) (hc : tChR (nxt1 σ k t) k d t = none) : wlk k d t σ = tLeave (tChS (nxt1 σ k t) k d t) k d := by
  rw [wlk, dif_pos h, hc]
theorem wlk_some {k d t p : Nat} {σ : St} (h : t < npt σ d ∧ t < 4000) (hc : tChR (nxt1 σ k t) k d t = some p) (hp : p < d) : wlk k d t σ =
    if ovr (visS (tChS (nxt1 σ k t) k d t) (k + 1) p) = true then visS (tChS (nxt1 σ k t) k d t) (k + 1) p
    else if ovr (wlk (k + 1) p 0 (visS (tChS (nxt1 σ k t) k d t) (k + 1) p)) = true then wlk (k + 1) p 0 (visS (tChS (nxt1 σ k t) k d t) (k + 1) p)
    else wlk k d (t + 1) (tTake (wlk (k + 1) p 0 (visS (tChS (nxt1 σ k t) k d t) (k + 1) p)) k d t) := by
  rw [wlk, dif_pos h, hc]; simp only [dif_pos hp]
theorem OKw.base {k d t : Nat} {σ : St} (h : OKw k d t σ) : isT (gN σ 12) ∧ k < 1501 ∧ OKd σ d ∧ gA σ 6 k = d ∧ gA σ 7 k = t ∧ ovr σ = false := by
  rw [OKw] at h; exact ⟨h.1, h.2.1, h.2.2.1, h.2.2.2.1, h.2.2.2.2.1, h.2.2.2.2.2.1⟩
theorem OKw.last {k d t : Nat} {σ : St} (h : OKw k d t σ) (ht : ¬ (t < npt σ d ∧ t < 4000)) : pL σ k d ∧ ovr (tLeave σ k d) = false := by
  rw [OKw, dif_neg ht] at h; exact h.2.2.2.2.2.2
theorem OKw.ch {k d t : Nat} {σ : St} (h : OKw k d t σ) (ht : t < npt σ d ∧ t < 4000) : pC (nxt1 σ k t) k d t := by
  rw [OKw, dif_pos ht] at h; exact h.2.2.2.2.2.2.1
theorem OKw.none {k d t : Nat} {σ : St} (h : OKw k d t σ) (ht : t < npt σ d ∧ t < 4000) (hc : tChR (nxt1 σ k t) k d t = none) : pL (tChS (nxt1 σ k t) k d t) k d ∧ (ovr (tChS (nxt1 σ k t) k d t) = true → gN σ 12 = 26 ∧ tLeave (tChS (nxt1 σ k t) k d t) k d = tChS (nxt1 σ k t) k d t) ∧ gA (tChS (nxt1 σ k t) k d t) 6 k = d ∧ ovr (tLeave (tChS (nxt1 σ k t) k d t) k d) = ovr (tChS (nxt1 σ k t) k d t) := by
  rw [OKw, dif_pos ht, hc] at h; exact h.2.2.2.2.2.2.2
theorem OKw.some {k d t p : Nat} {σ : St} (h : OKw k d t σ) (ht : t < npt σ d ∧ t < 4000) (hc : tChR (nxt1 σ k t) k d t = some p) : p < d ∧ preV (tChS (nxt1 σ k t) k d t) (k + 1) p ∧ ovr (tChS (nxt1 σ k t) k d t) = false ∧
        (ovr (visS (tChS (nxt1 σ k t) k d t) (k + 1) p) = false → OKw (k + 1) p 0 (visS (tChS (nxt1 σ k t) k d t) (k + 1) p) ∧
            pT (wlk (k + 1) p 0 (visS (tChS (nxt1 σ k t) k d t) (k + 1) p)) k d t ∧
            gA (wlk (k + 1) p 0 (visS (tChS (nxt1 σ k t) k d t) (k + 1) p)) 6 k = d ∧ gA (wlk (k + 1) p 0 (visS (tChS (nxt1 σ k t) k d t) (k + 1) p)) 7 k = t + 1 ∧
          (ovr (wlk (k + 1) p 0 (visS (tChS (nxt1 σ k t) k d t) (k + 1) p)) = false →
            OKw k d (t + 1) (tTake (wlk (k + 1) p 0 (visS (tChS (nxt1 σ k t) k d t) (k + 1) p)) k d t))) := by
  rw [OKw, dif_pos ht, hc] at h
  have h2 := h.2.2.2.2.2.2.2
  by_cases hp : p < d
  · simp only [dif_pos hp] at h2; exact ⟨hp, h2⟩
  · simp only [dif_neg hp] at h2
theorem npt_le {σ : St} {d : Nat} (h : OKd σ d) : npt σ d ≤ 4000 := by have := h.2.2.1; simp only [npt]; omega
theorem nxt_eq {k d t : Nat} {σ : St} (h6 : gA σ 6 k = d) (h7 : gA σ 7 k = t) (ht : t < npt σ d) : nxtS σ k = tChS (nxt1 σ k t) k d t ∧ nxtR σ k = tChR (nxt1 σ k t) k d t := by
  subst h6; subst h7; simp only [nxtS, nxtR, if_pos ht]; exact ⟨trivial, trivial⟩
theorem nxt_end {k d t : Nat} {σ : St} (h6 : gA σ 6 k = d) (h7 : gA σ 7 k = t) (ht : ¬ t < npt σ d) : nxtS σ k = σ ∧ nxtR σ k = none := by
  subst h6; subst h7; simp only [nxtS, nxtR, if_neg ht]; exact ⟨trivial, trivial⟩
theorem OKw.preN {k d t : Nat} {σ : St} (h : OKw k d t σ) (ht : t ≤ 4000) : preN σ k := by
  obtain ⟨h1, h2, h3, h4, h5, h6⟩ := h.base
  have hn := npt_le h3
  subst h4; subst h5
  exact ⟨h1, h2, h3, fun q => h.ch ⟨q, by omega⟩, by omega⟩
theorem tTake26 {σ : St} {k d t : Nat} (h : gN σ 12 = 26) : tTake σ k d t = σ := by simp [tTake, h]
/-- where the walk of frame k stands: its turns are within bounds -/
theorem OKw.t_le {k d t : Nat} {σ : St} (h : OKw k d t σ) (ht : t ≤ 4000) : (t < npt σ d ∧ t < 4000) ∨ ¬ t < npt σ d := by
  have := npt_le h.base.2.2.1; omega

