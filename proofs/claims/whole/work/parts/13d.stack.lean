theorem nI_nm1 {p : Nat} (h : p < 2 ^ 31) (e : nI p = -1) : False := by
  have h1 := nI_toInt h
  rw [e] at h1
  have h2 : ((-1 : Int32)).toInt = -1 := by decide
  omega
theorem tEnter_9 (σ : St) (k d : Nat) : gN (tEnter σ k d) 9 = gN σ 9 := by simp only [tEnter]; (repeat' split) <;> rfl
theorem tChS_9 (σ : St) (k d t : Nat) : gN (tChS σ k d t) 9 = gN σ 9 := by
  simp only [tChS]; split
  · simp only [tC24]; split <;> rfl
  · split <;> rfl
theorem tTake_9 (σ : St) (k d t : Nat) : gN (tTake σ k d t) 9 = gN σ 9 := by
  simp only [tTake]; split
  · simp only [tT21]; (repeat' split) <;> rfl
  · (repeat' split) <;> rfl
theorem tLeave_9 (σ : St) (k d : Nat) : gN (tLeave σ k d) 9 = gN σ 9 := by
  simp only [tLeave]; split
  · rfl
  · split
    · rfl
    · split
      · simp only [tL28]; split <;> rfl
      · rfl
theorem visS_9 {σ : St} {k d : Nat} (h : ovr (visS σ k d) = false) : gN (visS σ k d) 9 = gN σ 9 + 1 ∧ gN σ 9 ≠ 20000 := by
  simp only [visS] at *
  by_cases h1 : gN σ 9 = 20000
  · rw [if_pos h1, ovr_halt] at h; cases h
  · rw [if_neg h1] at *
    by_cases h2 : gN σ 13 < k
    · rw [if_pos h2, ovr_halt] at h; cases h
    · rw [if_neg h2] at *
      rw [tEnter_9]; exact ⟨rfl, h1⟩
/-- the rest of a walk by a stack: the frames top .. top + n are open -/
def resS (top : Nat) : Nat → St → St
  | 0, σ => wlk top (gA σ 6 top) (gA σ 7 top) σ
  | n + 1, σ => if ovr (wlk (top + n + 1) (gA σ 6 (top + n + 1)) (gA σ 7 (top + n + 1)) σ) = true then wlk (top + n + 1) (gA σ 6 (top + n + 1)) (gA σ 7 (top + n + 1)) σ
    else resS top n (tTake (wlk (top + n + 1) (gA σ 6 (top + n + 1)) (gA σ 7 (top + n + 1)) σ) (top + n) (gA (wlk (top + n + 1) (gA σ 6 (top + n + 1)) (gA σ 7 (top + n + 1)) σ) 6 (top + n)) (gA (wlk (top + n + 1) (gA σ 6 (top + n + 1)) (gA σ 7 (top + n + 1)) σ) 7 (top + n) - 1))
def pend (k : Nat) (σ : St) : Prop := pT σ k (gA σ 6 k) (gA σ 7 k - 1) ∧ 1 ≤ gA σ 7 k ∧ gA σ 7 k ≤ 4000 ∧ isT (gN σ 12)
def OKr (top : Nat) : Nat → St → Prop
  | 0, σ => OKw top (gA σ 6 top) (gA σ 7 top) σ ∧ gA σ 7 top ≤ 4000
  | n + 1, σ => OKw (top + n + 1) (gA σ 6 (top + n + 1)) (gA σ 7 (top + n + 1)) σ ∧ gA σ 7 (top + n + 1) ≤ 4000 ∧ pend (top + n) (wlk (top + n + 1) (gA σ 6 (top + n + 1)) (gA σ 7 (top + n + 1)) σ) ∧
    (ovr (wlk (top + n + 1) (gA σ 6 (top + n + 1)) (gA σ 7 (top + n + 1)) σ) = false → OKr top n (tTake (wlk (top + n + 1) (gA σ 6 (top + n + 1)) (gA σ 7 (top + n + 1)) σ) (top + n) (gA (wlk (top + n + 1) (gA σ 6 (top + n + 1)) (gA σ 7 (top + n + 1)) σ) 6 (top + n)) (gA (wlk (top + n + 1) (gA σ 6 (top + n + 1)) (gA σ 7 (top + n + 1)) σ) 7 (top + n) - 1)))
theorem OKr.w {top n : Nat} {σ : St} (h : OKr top n σ) : OKw (top + n) (gA σ 6 (top + n)) (gA σ 7 (top + n)) σ ∧ gA σ 7 (top + n) ≤ 4000 := by
  cases n with
  | zero => exact h
  | succ n => exact ⟨h.1, h.2.1⟩
theorem wlk_12 : ∀ (k d t : Nat) (σ : St), gN (wlk k d t σ) 12 = gN σ 12 := by
  intro k d t σ
  induction k, d, t, σ using wlk.induct with
  | case1 k d t σ ht hc => rw [wlk_none ht hc, tLeave_12, tChS_12]; rfl
  | case2 k d t σ ht p hc hp h1 => rw [wlk_some ht hc hp, if_pos h1, visS_12, tChS_12]; rfl
  | case3 k d t σ ht p hc hp h1 h2 ih => rw [wlk_some ht hc hp, if_neg h1, if_pos h2, ih, visS_12, tChS_12]; rfl
  | case4 k d t σ ht p hc hp h1 h2 ih1 ih2 => rw [wlk_some ht hc hp, if_neg h1, if_neg h2, ih2, tTake_12, ih1, visS_12, tChS_12]; rfl
  | case5 k d t σ ht p hc hp => rw [wlk, dif_pos ht, hc]; simp only [dif_neg hp]
  | case6 k d t σ ht => rw [wlk_end ht, tLeave_12]

