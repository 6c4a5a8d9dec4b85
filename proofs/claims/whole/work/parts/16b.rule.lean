/-- what the walker itself keeps -/
def wc (σ : St) : Nat × Nat × Nat × Nat × Int32 × (Nat → Nat) × (Nat → Nat) × (Nat → Nat) := (gN σ 12, gN σ 13, gN σ 9, gN σ 10, gI σ 2, gA σ 6, gA σ 7, gA σ 8)
theorem wc_enter (σ : St) (k d : Nat) : wc (tEnter σ k d) = wc σ := by simp only [tEnter]; (repeat' split) <;> rfl
theorem wc_choose (σ : St) (k d t : Nat) : wc (tChS σ k d t) = wc σ := by
  simp only [tChS]; split
  · simp only [tC24]; split <;> rfl
  · split <;> rfl
theorem wc_take (σ : St) (k d t : Nat) : wc (tTake σ k d t) = wc σ := by
  simp only [tTake]; split
  · simp only [tT21]; (repeat' split) <;> rfl
  · (repeat' split) <;> rfl
theorem wc_leave (σ : St) (k d : Nat) : wc (tLeave σ k d) = wc σ := by
  simp only [tLeave]; split
  · rfl
  · split
    · rfl
    · split
      · simp only [tL28]; split <;> rfl
      · rfl
theorem ovr_take (σ : St) (k d t : Nat) : ovr (tTake σ k d t) = ovr σ := by
  simp only [tTake]; split
  · simp only [tT21]; (repeat' split) <;> rfl
  · (repeat' split) <;> rfl
theorem ovr_leave {σ : St} (h : isT (gN σ 12)) (k d : Nat) : ovr (tLeave σ k d) = ovr σ := by
  simp only [tLeave]; split
  · rfl
  · split
    · next e => show gB (pAdds σ _) (gN σ 12) = gB σ (gN σ 12); rw [e]; rfl
    · split
      · simp only [tL28]; split <;> rfl
      · rfl
theorem ovr_nxt1 (σ : St) (k t : Nat) : ovr (nxt1 σ k t) = ovr σ := rfl
/-- A RULE FOR THE WALK: J while a deed is open at its turn, Jl behind a deed that was left, HH where the walk is over -/
theorem wlk_rule (J : List (Nat × Nat) → St → Prop) (Jl : Nat → List (Nat × Nat) → St → Prop) (HH : List (Nat × Nat) → St → Prop)
    (hb : ∀ d t c σ, J ((d, t) :: c) σ → isT (gN σ 12) ∧ c.length + 1 < 1501 ∧ OKd σ d ∧ gA σ 6 (c.length + 1) = d ∧ gA σ 7 (c.length + 1) = t ∧ ovr σ = false)
    (he : ∀ d t c σ, J ((d, t) :: c) σ → ¬ t < npt σ d → pL σ (c.length + 1) d ∧ Jl d c (tLeave σ (c.length + 1) d))
    (hc : ∀ d t c σ, J ((d, t) :: c) σ → t < npt σ d → pC (nxt1 σ (c.length + 1) t) (c.length + 1) d t ∧
      (tChR (nxt1 σ (c.length + 1) t) (c.length + 1) d t = none → pL (tChS (nxt1 σ (c.length + 1) t) (c.length + 1) d t) (c.length + 1) d ∧ (ovr (tChS (nxt1 σ (c.length + 1) t) (c.length + 1) d t) = true → gN σ 12 = 26 ∧ tLeave (tChS (nxt1 σ (c.length + 1) t) (c.length + 1) d t) (c.length + 1) d = tChS (nxt1 σ (c.length + 1) t) (c.length + 1) d t ∧ HH c (tLeave (tChS (nxt1 σ (c.length + 1) t) (c.length + 1) d t) (c.length + 1) d)) ∧
        (ovr (tChS (nxt1 σ (c.length + 1) t) (c.length + 1) d t) = false → Jl d c (tLeave (tChS (nxt1 σ (c.length + 1) t) (c.length + 1) d t) (c.length + 1) d))) ∧
      (∀ p, tChR (nxt1 σ (c.length + 1) t) (c.length + 1) d t = some p → p < d ∧ preV (tChS (nxt1 σ (c.length + 1) t) (c.length + 1) d t) (c.length + 2) p ∧ ovr (tChS (nxt1 σ (c.length + 1) t) (c.length + 1) d t) = false ∧
        (ovr (visS (tChS (nxt1 σ (c.length + 1) t) (c.length + 1) d t) (c.length + 2) p) = true → HH ((d, t + 1) :: c) (visS (tChS (nxt1 σ (c.length + 1) t) (c.length + 1) d t) (c.length + 2) p)) ∧
        (ovr (visS (tChS (nxt1 σ (c.length + 1) t) (c.length + 1) d t) (c.length + 2) p) = false → J ((p, 0) :: (d, t + 1) :: c) (visS (tChS (nxt1 σ (c.length + 1) t) (c.length + 1) d t) (c.length + 2) p))))
    (ht : ∀ d t c σ p, Jl p ((d, t + 1) :: c) σ → ovr σ = false → pT σ (c.length + 1) d t ∧ gA σ 6 (c.length + 1) = d ∧ gA σ 7 (c.length + 1) = t + 1 ∧ J ((d, t + 1) :: c) (tTake σ (c.length + 1) d t))
    (hh : ∀ d t c σ, HH ((d, t + 1) :: c) σ → pT σ (c.length + 1) d t ∧ gA σ 6 (c.length + 1) = d ∧ gA σ 7 (c.length + 1) = t + 1 ∧ HH c σ) :
    ∀ (k d t : Nat) (σ : St) (c : List (Nat × Nat)), k = c.length + 1 → J ((d, t) :: c) σ → OKw k d t σ ∧ (ovr (wlk k d t σ) = true → HH c (wlk k d t σ)) ∧ (ovr (wlk k d t σ) = false → Jl d c (wlk k d t σ)) := by
  intro k d t σ
  induction k, d, t, σ using wlk.induct with
  | case1 k d t σ hlt hcn =>
    intro c hk hJ
    subst hk
    obtain ⟨b1, b2, b3, b4, b5, b6⟩ := hb _ _ _ _ hJ
    obtain ⟨c1, c2, _⟩ := hc _ _ _ _ hJ hlt.1
    obtain ⟨n1, n2, n3⟩ := c2 hcn
    have e6 : gA (tChS (nxt1 σ (c.length + 1) t) (c.length + 1) d t) 6 (c.length + 1) = d := by
      have := wc_choose (nxt1 σ (c.length + 1) t) (c.length + 1) d t
      simp only [wc, Prod.mk.injEq] at this
      rw [this.2.2.2.2.2.1]; exact b4
    have e12 : gN (tChS (nxt1 σ (c.length + 1) t) (c.length + 1) d t) 12 = gN σ 12 := tChS_12 _ _ _ _
    have eo : ovr (tLeave (tChS (nxt1 σ (c.length + 1) t) (c.length + 1) d t) (c.length + 1) d) = ovr (tChS (nxt1 σ (c.length + 1) t) (c.length + 1) d t) := ovr_leave (by rw [e12]; exact b1) _ _
    refine ⟨?_, ?_, ?_⟩
    · rw [OKw, dif_pos hlt, hcn]
      exact ⟨b1, b2, b3, b4, b5, b6, c1, n1, fun h => ⟨(n2 h).1, (n2 h).2.1⟩, e6, eo⟩
    · rw [wlk_none hlt hcn]; intro h; exact (n2 (eo ▸ h)).2.2
    · rw [wlk_none hlt hcn]; intro h; exact n3 (eo ▸ h)
  | case2 k d t σ hlt p hcs hp h1 =>
    intro c hk hJ
    subst hk
    obtain ⟨b1, b2, b3, b4, b5, b6⟩ := hb _ _ _ _ hJ
    obtain ⟨c1, _, c3⟩ := hc _ _ _ _ hJ hlt.1
    obtain ⟨_, q2, q3, q4, _⟩ := c3 p hcs
    have hz := q4 h1
    refine ⟨?_, ?_, ?_⟩
    · rw [OKw, dif_pos hlt, hcs]; simp only [dif_pos hp]
      exact ⟨b1, b2, b3, b4, b5, b6, c1, q2, q3, fun h => absurd (h.symm.trans h1) (by decide)⟩
    · rw [wlk_some hlt hcs hp, if_pos h1]; intro _; exact (hh _ _ _ _ hz).2.2.2
    · rw [wlk_some hlt hcs hp, if_pos h1]; intro h; exact absurd (h.symm.trans h1) (by decide)
  | case3 k d t σ hlt p hcs hp h1 h2 ih =>
    intro c hk hJ
    subst hk
    obtain ⟨b1, b2, b3, b4, b5, b6⟩ := hb _ _ _ _ hJ
    obtain ⟨c1, _, c3⟩ := hc _ _ _ _ hJ hlt.1
    obtain ⟨_, q2, q3, _, q5⟩ := c3 p hcs
    obtain ⟨i1, i2, _⟩ := ih ((d, t + 1) :: c) rfl (q5 (by simpa using h1))
    obtain ⟨z1, z2, z3, z4⟩ := hh _ _ _ _ (i2 h2)
    refine ⟨?_, ?_, ?_⟩
    · rw [OKw, dif_pos hlt, hcs]; simp only [dif_pos hp]
      exact ⟨b1, b2, b3, b4, b5, b6, c1, q2, q3, fun _ => ⟨i1, z1, z2, z3, fun h => absurd (h.symm.trans h2) (by decide)⟩⟩
    · rw [wlk_some hlt hcs hp, if_neg h1, if_pos h2]; intro _; exact z4
    · rw [wlk_some hlt hcs hp, if_neg h1, if_pos h2]; intro h; exact absurd (h.symm.trans h2) (by decide)
  | case4 k d t σ hlt p hcs hp h1 h2 ih1 ih2 =>
    intro c hk hJ
    subst hk
    obtain ⟨b1, b2, b3, b4, b5, b6⟩ := hb _ _ _ _ hJ
    obtain ⟨c1, _, c3⟩ := hc _ _ _ _ hJ hlt.1
    obtain ⟨_, q2, q3, _, q5⟩ := c3 p hcs
    obtain ⟨i1, _, i3⟩ := ih1 ((d, t + 1) :: c) rfl (q5 (by simpa using h1))
    have h2f : ovr (wlk (c.length + 1 + 1) p 0 (visS (tChS (nxt1 σ (c.length + 1) t) (c.length + 1) d t) (c.length + 1 + 1) p)) = false := by simpa using h2
    obtain ⟨t1, t2, t3, t4⟩ := ht _ _ _ _ _ (i3 h2f) h2f
    obtain ⟨u1, u2, u3⟩ := ih2 c rfl t4
    refine ⟨?_, ?_, ?_⟩
    · rw [OKw, dif_pos hlt, hcs]; simp only [dif_pos hp]
      exact ⟨b1, b2, b3, b4, b5, b6, c1, q2, q3, fun _ => ⟨i1, t1, t2, t3, fun _ => u1⟩⟩
    · rw [wlk_some hlt hcs hp, if_neg h1, if_neg h2]; exact u2
    · rw [wlk_some hlt hcs hp, if_neg h1, if_neg h2]; exact u3
  | case5 k d t σ hlt p hcs hp =>
    intro c hk hJ
    subst hk
    exact absurd ((hc _ _ _ _ hJ hlt.1).2.2 p hcs).1 hp
  | case6 k d t σ hlt =>
    intro c hk hJ
    subst hk
    obtain ⟨b1, b2, b3, b4, b5, b6⟩ := hb _ _ _ _ hJ
    have hn := npt_le b3
    have hte : ¬ t < npt σ d := fun h => hlt ⟨h, by omega⟩
    obtain ⟨e1, e2⟩ := he _ _ _ _ hJ hte
    have eo : ovr (tLeave σ (c.length + 1) d) = false := by rw [ovr_leave b1]; exact b6
    refine ⟨?_, ?_, ?_⟩
    · rw [OKw, dif_neg hlt]
      exact ⟨b1, b2, b3, b4, b5, b6, e1, eo⟩
    · rw [wlk_end hlt]; intro h; exact absurd (h.symm.trans eo) (by decide)
    · rw [wlk_end hlt]; intro _; exact e2
