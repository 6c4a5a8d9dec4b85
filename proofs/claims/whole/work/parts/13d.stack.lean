theorem nI_nm1 {p : Nat} (h : p < 2 ^ 31) (e : nI p = -1) : False := by
  have h1 := nI_toInt h
  rw [e] at h1
  have h2 : ((-1 : Int32)).toInt = -1 := by decide
  omega
theorem tEnter_9 (σ : St) (k d : Nat) : gN (tEnter σ k d) 9 = gN σ 9 := by simp only [tEnter]; (repeat' split) <;> rfl
theorem tChS_9 (σ : St) (k d t : Nat) : gN (tChS σ k d t) 9 = gN σ 9 := by
  simp only [tChS]; split
  · simp only [tC24]; split <;> rfl
  · split <;> rfl
theorem tTake_9 (σ : St) (k d t : Nat) : gN (tTake σ k d t) 9 = gN σ 9 := by
  simp only [tTake]; split
  · simp only [tT21]; (repeat' split) <;> rfl
  · (repeat' split) <;> rfl
theorem tLeave_9 (σ : St) (k d : Nat) : gN (tLeave σ k d) 9 = gN σ 9 := by
  simp only [tLeave]; split
  · rfl
  · split
    · rfl
    · split
      · simp only [tL28]; split <;> rfl
      · rfl
theorem visS_9 {σ : St} {k d : Nat} (h : ovr (visS σ k d) = false) : gN (visS σ k d) 9 = gN σ 9 + 1 ∧ gN σ 9 ≠ 20000 := by
  simp only [visS] at *
  by_cases h1 : gN σ 9 = 20000
  · rw [if_pos h1, ovr_halt] at h; cases h
  · rw [if_neg h1] at *
    by_cases h2 : gN σ 13 < k
    · rw [if_pos h2, ovr_halt] at h; cases h
    · rw [if_neg h2] at *
      rw [tEnter_9]; exact ⟨rfl, h1⟩
/-- the rest of a walk by a stack: the frames top .. top + n are open -/
def resS (top : Nat) : Nat → St → St
  | 0, σ => wlk top (gA σ 6 top) (gA σ 7 top) σ
  | n + 1, σ => if ovr (wlk (top + n + 1) (gA σ 6 (top + n + 1)) (gA σ 7 (top + n + 1)) σ) = true then wlk (top + n + 1) (gA σ 6 (top + n + 1)) (gA σ 7 (top + n + 1)) σ
    else resS top n (tTake (wlk (top + n + 1) (gA σ 6 (top + n + 1)) (gA σ 7 (top + n + 1)) σ) (top + n) (gA (wlk (top + n + 1) (gA σ 6 (top + n + 1)) (gA σ 7 (top + n + 1)) σ) 6 (top + n)) (gA (wlk (top + n + 1) (gA σ 6 (top + n + 1)) (gA σ 7 (top + n + 1)) σ) 7 (top + n) - 1))
def pend (k : Nat) (σ : St) : Prop := pT σ k (gA σ 6 k) (gA σ 7 k - 1) ∧ 1 ≤ gA σ 7 k ∧ gA σ 7 k ≤ 4000 ∧ isT (gN σ 12)
def OKr (top : Nat) : Nat → St → Prop
  | 0, σ => OKw top (gA σ 6 top) (gA σ 7 top) σ ∧ gA σ 7 top ≤ 4000
  | n + 1, σ => OKw (top + n + 1) (gA σ 6 (top + n + 1)) (gA σ 7 (top + n + 1)) σ ∧ gA σ 7 (top + n + 1) ≤ 4000 ∧ pend (top + n) (wlk (top + n + 1) (gA σ 6 (top + n + 1)) (gA σ 7 (top + n + 1)) σ) ∧
    (ovr (wlk (top + n + 1) (gA σ 6 (top + n + 1)) (gA σ 7 (top + n + 1)) σ) = false → OKr top n (tTake (wlk (top + n + 1) (gA σ 6 (top + n + 1)) (gA σ 7 (top + n + 1)) σ) (top + n) (gA (wlk (top + n + 1) (gA σ 6 (top + n + 1)) (gA σ 7 (top + n + 1)) σ) 6 (top + n)) (gA (wlk (top + n + 1) (gA σ 6 (top + n + 1)) (gA σ 7 (top + n + 1)) σ) 7 (top + n) - 1)))
theorem OKr.w {top n : Nat} {σ : St} (h : OKr top n σ) : OKw (top + n) (gA σ 6 (top + n)) (gA σ 7 (top + n)) σ ∧ gA σ 7 (top + n) ≤ 4000 := by
  cases n with
  | zero => exact h
  | succ n => exact ⟨h.1, h.2.1⟩
theorem wlk_12 : ∀ (k d t : Nat) (σ : St), gN (wlk k d t σ) 12 = gN σ 12 := by
  intro k d t σ
  induction k, d, t, σ using wlk.induct with
  | case1 k d t σ ht hc => rw [wlk_none ht hc, tLeave_12, tChS_12]; rfl
  | case2 k d t σ ht p hc hp h1 => rw [wlk_some ht hc hp, if_pos h1, visS_12, tChS_12]; rfl
  | case3 k d t σ ht p hc hp h1 h2 ih => rw [wlk_some ht hc hp, if_neg h1, if_pos h2, ih, visS_12, tChS_12]; rfl
  | case4 k d t σ ht p hc hp h1 h2 ih1 ih2 => rw [wlk_some ht hc hp, if_neg h1, if_neg h2, ih2, tTake_12, ih1, visS_12, tChS_12]; rfl
  | case5 k d t σ ht p hc hp => rw [wlk, dif_pos ht, hc]; simp only [dif_neg hp]
  | case6 k d t σ ht => rw [wlk_end ht, tLeave_12]


theorem st_none {top n : Nat} {σ : St} (h : OKr top n σ) (hn : nxtR σ (top + n) = none) :
    tLeave (nxtS σ (top + n)) (top + n) (gA (nxtS σ (top + n)) 6 (top + n)) = wlk (top + n) (gA σ 6 (top + n)) (gA σ 7 (top + n)) σ ∧ pL (nxtS σ (top + n)) (top + n) (gA (nxtS σ (top + n)) 6 (top + n)) ∧ gN (nxtS σ (top + n)) 12 = gN σ 12 ∧ gN (nxtS σ (top + n)) 9 = gN σ 9 ∧
    (ovr (wlk (top + n) (gA σ 6 (top + n)) (gA σ 7 (top + n)) σ) = true → gN σ 12 = 26) ∧ ovr (wlk (top + n) (gA σ 6 (top + n)) (gA σ 7 (top + n)) σ) = ovr (nxtS σ (top + n)) ∧ (ovr (nxtS σ (top + n)) = true → wlk (top + n) (gA σ 6 (top + n)) (gA σ 7 (top + n)) σ = nxtS σ (top + n)) := by
  obtain ⟨hw, ht⟩ := h.w
  obtain ⟨h1, h2, h3, h4, h5, h6⟩ := hw.base
  rcases hw.t_le ht with hlt | hge
  · obtain ⟨e1, e2⟩ := nxt_eq (σ := σ) (k := top + n) rfl rfl hlt.1
    rw [e2] at hn
    obtain ⟨a1, a2, a3, a4⟩ := hw.none hlt hn
    rw [e1, a3, wlk_none hlt hn]
    exact ⟨rfl, a1, by rw [tChS_12]; rfl, by rw [tChS_9]; rfl, fun q => (a2 (a4 ▸ q)).1, a4, fun q => (a2 q).2⟩
  · obtain ⟨e1, e2⟩ := nxt_end (σ := σ) (k := top + n) rfl rfl hge
    have hx := hw.last (fun q => hge q.1)
    rw [e1, wlk_end (fun q => hge q.1)]
    exact ⟨rfl, hx.1, rfl, rfl, (fun q => by rw [hx.2] at q; cases q), (by rw [hx.2, h6]), (fun q => by rw [h6] at q; cases q)⟩
theorem st_some {top n p : Nat} {σ : St} (h : OKr top n σ) (hn : nxtR σ (top + n) = some p) :
    preV (nxtS σ (top + n)) (top + n + 1) p ∧ p < 1500 ∧ gN (nxtS σ (top + n)) 9 = gN σ 9 ∧ gN (nxtS σ (top + n)) 12 = gN σ 12 ∧
    (ovr (visS (nxtS σ (top + n)) (top + n + 1) p) = true → resS top n σ = visS (nxtS σ (top + n)) (top + n + 1) p) ∧
    (ovr (visS (nxtS σ (top + n)) (top + n + 1) p) = false → resS top n σ = resS top (n + 1) (visS (nxtS σ (top + n)) (top + n + 1) p) ∧ OKr top (n + 1) (visS (nxtS σ (top + n)) (top + n + 1) p)) := by
  obtain ⟨hw, ht⟩ := h.w
  obtain ⟨h1, h2, h3, h4, h5, h6⟩ := hw.base
  rcases hw.t_le ht with hlt | hge
  case inr => obtain ⟨e1, e2⟩ := nxt_end (σ := σ) (k := top + n) rfl rfl hge; rw [e2] at hn; cases hn
  obtain ⟨e1, e2⟩ := nxt_eq (σ := σ) (k := top + n) rfl rfl hlt.1
  rw [e2] at hn
  obtain ⟨hp, a1, a2, a3⟩ := hw.some hlt hn
  have hws := wlk_some hlt hn hp
  rw [e1]
  have hp15 : p < 1500 := by have := h3.1; omega
  refine ⟨a1, hp15, by rw [tChS_9]; rfl, by rw [tChS_12]; rfl, ?_, ?_⟩
  · intro ho
    rw [if_pos ho] at hws
    cases n with
    | zero => exact hws
    | succ n => simp only [resS]; rw [show top + (n + 1) = top + n + 1 from rfl] at hws ho ⊢; rw [hws, if_pos ho]
  · intro ho
    obtain ⟨b1, b2, b3, b4, b5⟩ := a3 ho
    obtain ⟨c1, c2, c3, c4, c5, c6⟩ := b1.base
    rw [if_neg (by rw [ho]; decide)] at hws
    generalize hσ3 : visS (tChS (nxt1 σ (top + n) (gA σ 7 (top + n))) (top + n) (gA σ 6 (top + n)) (gA σ 7 (top + n))) (top + n + 1) p = σ3 at *
    generalize hσ4 : wlk (top + n + 1) p 0 σ3 = σ4 at *
    have hr : resS top (n + 1) σ3 = if ovr σ4 = true then σ4 else resS top n (tTake σ4 (top + n) (gA σ 6 (top + n)) (gA σ 7 (top + n))) := by
      simp only [resS, c4, c5, hσ4, b3, b4, Nat.add_sub_cancel]
    have hpend : pend (top + n) σ4 := by
      refine ⟨?_, by omega, by omega, ?_⟩
      · rw [b3, b4, Nat.add_sub_cancel]; exact b2
      · rw [← hσ4, wlk_12]; exact c1
    by_cases ho4 : ovr σ4 = true
    · rw [if_pos ho4] at hws
      refine ⟨?_, ?_⟩
      · rw [hr, if_pos ho4]
        cases n with
        | zero => exact hws
        | succ n => simp only [resS]; rw [show top + (n + 1) = top + n + 1 from rfl] at hws; rw [hws, if_pos ho4]
      · refine ⟨by rw [c4, c5]; exact b1, by rw [c5]; omega, ?_, ?_⟩
        · rw [c4, c5, hσ4]; exact hpend
        · rw [c4, c5, hσ4]; intro q; rw [ho4] at q; cases q
    · have ho4' : ovr σ4 = false := by simpa using ho4
      rw [if_neg ho4] at hws
      have b6 := b5 ho4'
      obtain ⟨d1, d2, d3, d4, d5, d6⟩ := b6.base
      generalize hτ : tTake σ4 (top + n) (gA σ 6 (top + n)) (gA σ 7 (top + n)) = τ at *
      have hrn : resS top n σ = resS top n τ := by
        cases n with
        | zero => simp only [resS]; rw [Nat.add_zero] at hws d4 d5; rw [hws, d4, d5]
        | succ n =>
          rw [show top + (n + 1) = top + n + 1 from rfl] at hws d4 d5
          simp only [resS, d4, d5, hws]
      have hok : OKr top n τ := by
        cases n with
        | zero => rw [Nat.add_zero] at d4 d5 b6 hlt; exact ⟨by rw [d4, d5]; exact b6, by rw [d5]; omega⟩
        | succ n =>
          rw [show top + (n + 1) = top + n + 1 from rfl] at hws d4 d5 b6 hlt
          obtain ⟨q1, q2, q3, q4⟩ := h
          rw [hws] at q3 q4
          exact ⟨by rw [d4, d5]; exact b6, by rw [d5]; omega, by rw [d4, d5]; exact q3, by rw [d4, d5]; exact q4⟩
      refine ⟨by rw [hr, if_neg ho4, hrn], ?_⟩
      refine ⟨by rw [c4, c5]; exact b1, by rw [c5]; omega, by rw [c4, c5, hσ4]; exact hpend, ?_⟩
      rw [c4, c5, hσ4, b3, b4, Nat.add_sub_cancel]
      intro _
      rw [hτ]; exact hok

