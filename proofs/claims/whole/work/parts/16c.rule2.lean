/-- what the walker tells of the visits s -/
def RW {X : Type} (s : List (X × Nat) × Int32 × Bool) (σ : St) : Prop := gN σ 9 = s.1.length ∧ gN σ 10 = mxD s.1 ∧ gI σ 2 = s.2.1 ∧ (∀ k, 1 ≤ k → k ≤ mxD s.1 → gA σ 8 k = cnD s.1 k) ∧ (∀ k, gA σ 8 k ≤ 20000) ∧ s.1.length ≤ 20000
theorem RW.ofwc {X : Type} {s : List (X × Nat) × Int32 × Bool} {σ τ : St} (h : RW s σ) (e : wc τ = wc σ) : RW s τ := by
  simp only [wc, Prod.mk.injEq] at e
  obtain ⟨_, _, e3, e4, e5, _, _, e8⟩ := e
  rw [RW, e3, e4, e5, e8]; exact h
theorem cnD_le {X : Type} (vs : List (X × Nat)) (k : Nat) : cnD vs k ≤ vs.length := List.countP_le_length
theorem cnD_0 {X : Type} {vs : List (X × Nat)} {k : Nat} (h : mxD vs < k) : cnD vs k = 0 := by
  rw [cnD, List.countP_eq_zero]
  intro x hx; have := mxD_le vs x hx; simp; omega
theorem RW.halt {X : Type} {s : List (X × Nat) × Int32 × Bool} {σ : St} (h : RW s σ) (w : Int32) : RW (s.1, w, true) (halt σ w) := ⟨h.1, h.2.1, rfl, h.2.2.2.1, h.2.2.2.2.1, h.2.2.2.2.2⟩
theorem RW.vis {X : Type} {s : List (X × Nat) × Int32 × Bool} {σ : St} (h : RW s σ) {k d : Nat} {x : X} {b : Bool} (hk1 : 1 ≤ k) (hk : k ≤ mxD s.1 + 1) (hl : s.1.length < 20000) : RW (s.1 ++ [(x, k)], s.2.1, b) (visPre σ k d) := by
  obtain ⟨h1, h2, h3, h4, h5, h6⟩ := h
  refine ⟨?_, ?_, h3, ?_, ?_, ?_⟩
  · show gN σ 9 + 1 = _; rw [h1]; simp
  · show max (gN σ 10) k = _; rw [h2, mxD_snoc]
  · intro j j1 j2
    rw [mxD_snoc] at j2
    show (if j = k then (if gN σ 10 < k then 1 else gA σ 8 k + 1) else gA σ 8 j) = _
    rw [cnD_snoc, h2]
    by_cases e : j = k
    · subst e
      rw [if_pos rfl, if_pos rfl]
      by_cases q : mxD s.1 < j
      · rw [if_pos q, cnD_0 q]
      · rw [if_neg q, h4 j j1 (by omega)]
    · rw [if_neg e, if_neg (fun z => e z.symm), h4 j j1 (by simp only at j2; omega)]; rfl
  · intro j
    show (if j = k then (if gN σ 10 < k then 1 else gA σ 8 k + 1) else gA σ 8 j) ≤ _
    rw [h2]
    by_cases e : j = k
    · subst e
      rw [if_pos rfl]
      by_cases q : mxD s.1 < j
      · rw [if_pos q]; decide
      · rw [if_neg q]
        rw [h4 j hk1 (by omega)]; have := cnD_le s.1 j; omega
    · rw [if_neg e]; exact h5 j
  · simp; omega
/-- the frames of open nodes -/
def FRM {X : Type} (π : X → Nat) (UX : X → Prop) (nt : X → Nat) : List (X × Nat) → (Nat → Nat) → (Nat → Nat) → Prop
  | [], _, _ => True
  | (x, t) :: c, f, g => UX x ∧ t ≤ nt x ∧ f (c.length + 1) = π x ∧ g (c.length + 1) = t ∧ FRM π UX nt c f g
theorem FRM.up {X : Type} {π : X → Nat} {UX : X → Prop} {nt : X → Nat} : ∀ {c : List (X × Nat)} {f g f' g' : Nat → Nat}, FRM π UX nt c f g → (∀ j, j ≤ c.length → f' j = f j ∧ g' j = g j) → FRM π UX nt c f' g'
  | [], _, _, _, _, _, _ => trivial
  | (x, t) :: c, f, g, f', g', h, e => by
    obtain ⟨h1, h2, h3, h4, h5⟩ := h
    have e1 := e (c.length + 1) (Nat.le_refl _)
    exact ⟨h1, h2, by rw [e1.1]; exact h3, by rw [e1.2]; exact h4, h5.up (fun j hj => e j (by simp; omega))⟩
/-- each open node is the part that its elder's turn has come to -/
def LK {X : Type} (ch : X → List X) : List (X × Nat) → Prop
  | [] => True
  | (p, _) :: c => (match c with
    | [] => True
    | (x, u) :: _ => 1 ≤ u ∧ (ch x)[u - 1]? = some p) ∧ LK ch c
def DV {X : Type} (π : X → Nat) (UX : X → Prop) (nt : X → Nat) (σ : St) : Prop := ∀ x, UX x → OKd σ (π x) ∧ npt σ (π x) = nt x
/-- what a task brings along for the walk's rule -/
def TKR {X : Type} (π : X → Nat) (UX : X → Prop) (nt : X → Nat) (ch : X → List X) (stop : X → Bool) (tk : Nat) (Ext : List (X × Nat) → (List (X × Nat) × Int32 × Bool) → St → Prop) (ExtL : X → List (X × Nat) → (List (X × Nat) × Int32 × Bool) → St → Prop) (EH : St → Prop) : Prop :=
  (∀ c s σ, Ext c s σ → DV π UX nt σ) ∧ (∀ x c s σ, ExtL x c s σ → DV π UX nt σ) ∧ (∀ σ, EH σ → DV π UX nt σ) ∧
  (∀ σ w, gN σ 12 = tk → EH σ → EH (halt σ w)) ∧
  (∀ x t c s σ, gN σ 12 = tk → UX x → c.length + 1 < 1501 → Ext ((x, t) :: c) s σ → ¬ t < nt x → (ch x).length ≤ t ∧ pL σ (c.length + 1) (π x) ∧ ExtL x c s (tLeave σ (c.length + 1) (π x))) ∧
  (∀ x t c s σ, gN σ 12 = tk → UX x → c.length + 1 < 1501 → Ext ((x, t) :: c) s σ → t < nt x →
    pC (nxt1 σ (c.length + 1) t) (c.length + 1) (π x) t ∧ tChR (nxt1 σ (c.length + 1) t) (c.length + 1) (π x) t = ((ch x)[t]?).map π ∧
    ovr (tChS (nxt1 σ (c.length + 1) t) (c.length + 1) (π x) t) = ovr σ ∧
    ((ch x)[t]? = none → pL (tChS (nxt1 σ (c.length + 1) t) (c.length + 1) (π x) t) (c.length + 1) (π x) ∧ ExtL x c s (tLeave (tChS (nxt1 σ (c.length + 1) t) (c.length + 1) (π x) t) (c.length + 1) (π x))) ∧
    (∀ p, (ch x)[t]? = some p → UX p → EH (tChS (nxt1 σ (c.length + 1) t) (c.length + 1) (π x) t) ∧
      pE (visPre (tChS (nxt1 σ (c.length + 1) t) (c.length + 1) (π x) t) (c.length + 2) (π p)) (c.length + 2) (π p) ∧
      (ovr σ = false → ovr (tEnter (visPre (tChS (nxt1 σ (c.length + 1) t) (c.length + 1) (π x) t) (c.length + 2) (π p)) (c.length + 2) (π p)) = stop p) ∧
      (stop p = true → EH (tEnter (visPre (tChS (nxt1 σ (c.length + 1) t) (c.length + 1) (π x) t) (c.length + 2) (π p)) (c.length + 2) (π p))) ∧
      (stop p = false → Ext ((p, 0) :: (x, t + 1) :: c) (s.1 ++ [(p, c.length + 2)], s.2.1, false) (tEnter (visPre (tChS (nxt1 σ (c.length + 1) t) (c.length + 1) (π x) t) (c.length + 2) (π p)) (c.length + 2) (π p))))) ∧
  (∀ x t c s σ p, gN σ 12 = tk → UX x → UX p → c.length + 1 < 1501 → t < nt x → (ch x)[t]? = some p → ExtL p ((x, t + 1) :: c) s σ → Ext ((x, t + 1) :: c) s (tTake σ (c.length + 1) (π x) t))
def JX {X : Type} (π : X → Nat) (UX : X → Prop) (nt : X → Nat) (ch : X → List X) (stop : X → Bool) (tk bot r : Nat) (F : List (X × Nat) × Int32 × Bool) (c : List (X × Nat)) (s : List (X × Nat) × Int32 × Bool) (σ : St) : Prop :=
  gN σ 12 = tk ∧ gN σ 13 = bot ∧ ovr σ = false ∧ RW s σ ∧ s.2.2 = false ∧ FRM π UX nt c (gA σ 6) (gA σ 7) ∧ DCh π r c ∧ c.length ≤ mxD s.1 ∧ mxD s.1 ≤ r + 1 ∧ runW bot stop (rst ch π c) s = F ∧ LK ch c
theorem JX.ofwc {X : Type} {π : X → Nat} {UX : X → Prop} {nt : X → Nat} {ch : X → List X} {stop : X → Bool} {tk bot r : Nat} {F : List (X × Nat) × Int32 × Bool} {c : List (X × Nat)} {s : List (X × Nat) × Int32 × Bool} {σ τ : St} (h : JX π UX nt ch stop tk bot r F c s σ) (e : wc τ = wc σ) (eo : ovr τ = ovr σ) : JX π UX nt ch stop tk bot r F c s τ := by
  obtain ⟨h1, h2, h3, h4, h5, h6, h7, h8, h9, h10, h11⟩ := h
  have hr := h4.ofwc e
  simp only [wc, Prod.mk.injEq] at e
  obtain ⟨e1, e2, e3, e4, e5, e6, e7, e8⟩ := e
  exact ⟨by rw [e1]; exact h1, by rw [e2]; exact h2, by rw [eo]; exact h3, hr, h5, by rw [e6, e7]; exact h6, h7, h8, h9, h10, h11⟩
