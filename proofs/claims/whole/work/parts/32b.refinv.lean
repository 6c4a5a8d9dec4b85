/-- what was visited, as the reference keeps it -/
def RV {X : Type} (π : X → Nat) (s : List (X × Nat) × Int32 × Bool) (τ : St) : Prop := gN τ 8 = s.1.length ∧ s.1.length ≤ 20000 ∧ gN τ 9 = mxD s.1 ∧ gI τ 0 = s.2.1 ∧ ∀ (i : Nat) (q : X × Nat), s.1[i]? = some q → gA τ 6 i = π q.1 ∧ gA τ 7 i = q.2
def FRs {X : Type} (π : X → Nat) (ρ : X → Option Nat) (U : X → Nat → Prop) : List (X × Nat) → St → Prop
  | [], _ => True
  | (x, t) :: c, τ => U x t ∧ gA τ 4 c.length = π x ∧ gA τ 5 c.length = t ∧ gP τ 3 c.length = ρ x ∧ FRs π ρ U c τ
theorem FRs.up {X : Type} {π : X → Nat} {ρ : X → Option Nat} {U : X → Nat → Prop} {τ σ : St} : ∀ {c : List (X × Nat)}, FRs π ρ U c σ → (∀ j, j < c.length → gA τ 4 j = gA σ 4 j ∧ gA τ 5 j = gA σ 5 j ∧ gP τ 3 j = gP σ 3 j) → FRs π ρ U c τ
  | [], _, _ => trivial
  | (x, t) :: c, h, e => by
    obtain ⟨h1, h2, h3, h4, h5⟩ := h
    obtain ⟨e1, e2, e3⟩ := e c.length (by simp)
    exact ⟨h1, e1.trans h2, e2.trans h3, e3.trans h4, h5.up (fun j hj => e j (by simp; omega))⟩
/-- what a walk leaves as it is -/
def xW (τ σ : St) : Prop := ars τ = ars σ ∧ gN τ 2 = gN σ 2 ∧ gN τ 3 = gN σ 3 ∧ gN τ 4 = gN σ 4 ∧ gA τ 3 = gA σ 3 ∧ gL τ = gL σ
theorem xW.rf (σ : St) : xW σ σ := ⟨rfl, rfl, rfl, rfl, rfl, rfl⟩
theorem xW.tr {a b c : St} (h : xW a b) (g : xW b c) : xW a c := ⟨h.1.trans g.1, h.2.1.trans g.2.1, h.2.2.1.trans g.2.2.1, h.2.2.2.1.trans g.2.2.2.1, h.2.2.2.2.1.trans g.2.2.2.2.1, h.2.2.2.2.2.trans g.2.2.2.2.2⟩
theorem xW_vis (τ : St) (d : Nat) (o : Option Nat) : xW (rVU τ d o) τ := ⟨rfl, rfl, rfl, rfl, rfl, rfl⟩
theorem xW_halt (τ : St) (w : Int32) : xW (sI τ 0 w) τ := ⟨rfl, rfl, rfl, rfl, rfl, rfl⟩
theorem xW_beg (τ : St) (f : Nat → Nat) : xW (sA τ 5 f) τ := ⟨rfl, rfl, rfl, rfl, rfl, rfl⟩
theorem xW_dep (τ : St) (n : Nat) : xW (sN τ 7 n) τ := ⟨rfl, rfl, rfl, rfl, rfl, rfl⟩
theorem RV.vis {X : Type} {π : X → Nat} {s : List (X × Nat) × Int32 × Bool} {τ : St} (h : RV π s τ) {n : Nat} (h7 : gN τ 7 = n) (hl : s.1.length < 20000) (p : X) (o : Option Nat) (b : Bool) : RV π (s.1 ++ [(p, n + 1)], s.2.1, b) (rVU τ (π p) o) := by
  obtain ⟨h1, h2, h3, h4, h5⟩ := h
  refine ⟨?_, by simp; omega, ?_, h4, fun i q hq => ?_⟩
  · show gN τ 8 + 1 = _; rw [h1]; simp
  · show max (gN τ 9) (gN τ 7 + 1) = _; rw [mxD_snoc, h3, h7]
  · have hlt := (List.getElem?_eq_some_iff.mp hq).1
    simp only [List.length_append, List.length_singleton] at hlt
    by_cases e : i < s.1.length
    · have hq : (s.1 ++ [(p, n + 1)])[i]? = some q := hq
      rw [List.getElem?_append_left e] at hq
      constructor
      · show (if i = gN τ 8 then π p else gA τ 6 i) = _; rw [if_neg (by omega)]; exact (h5 i q hq).1
      · show (if i = gN τ 8 then gN τ 7 + 1 else gA τ 7 i) = _; rw [if_neg (by omega)]; exact (h5 i q hq).2
    · have e : i = s.1.length := by omega
      have hq : (s.1 ++ [(p, n + 1)])[i]? = some q := hq
      rw [e, List.getElem?_append_right (Nat.le_refl _)] at hq
      simp at hq
      subst hq
      constructor
      · show (if i = gN τ 8 then π p else gA τ 6 i) = _; rw [if_pos (by omega)]
      · show (if i = gN τ 8 then gN τ 7 + 1 else gA τ 7 i) = _; rw [if_pos (by omega), h7]
theorem RV.halt {X : Type} {π : X → Nat} {s : List (X × Nat) × Int32 × Bool} {τ : St} (h : RV π s τ) (w : Int32) : RV π (s.1, w, true) (sI τ 0 w) := ⟨h.1, h.2.1, h.2.2.1, rfl, h.2.2.2.2⟩
theorem RV.beg {X : Type} {π : X → Nat} {s : List (X × Nat) × Int32 × Bool} {τ : St} (h : RV π s τ) (f : Nat → Nat) : RV π s (sA τ 5 f) := h
theorem RV.dep {X : Type} {π : X → Nat} {s : List (X × Nat) × Int32 × Bool} {τ : St} (h : RV π s τ) (n : Nat) : RV π s (sN τ 7 n) := h
theorem RV.enf {X : Type} {π : X → Nat} {s : List (X × Nat) × Int32 × Bool} {τ : St} (h : RV π s τ) : RV π s (rEnd τ) := h
theorem FRs.vis {X : Type} {π : X → Nat} {ρ : X → Option Nat} {U : X → Nat → Prop} {τ : St} {c : List (X × Nat)} (h : FRs π ρ U c τ) (h7 : gN τ 7 = c.length) {p : X} (hp : U p 0) : FRs π ρ U ((p, 0) :: c) (rVU τ (π p) (ρ p)) := by
  refine ⟨hp, ?_, ?_, ?_, h.up (fun j hj => ⟨?_, ?_, ?_⟩)⟩
  · show (if c.length = gN τ 7 then π p else _) = _; rw [if_pos h7.symm]
  · show (if c.length = gN τ 7 then 0 else _) = _; rw [if_pos h7.symm]
  · show (if c.length = gN τ 7 then ρ p else _) = _; rw [if_pos h7.symm]
  · show (if j = gN τ 7 then _ else gA τ 4 j) = _; rw [if_neg (by omega)]
  · show (if j = gN τ 7 then _ else gA τ 5 j) = _; rw [if_neg (by omega)]
  · show (if j = gN τ 7 then _ else gP τ 3 j) = _; rw [if_neg (by omega)]
theorem FRs.beg {X : Type} {π : X → Nat} {ρ : X → Option Nat} {U : X → Nat → Prop} {τ : St} {x : X} {t : Nat} {c : List (X × Nat)} (h : FRs π ρ U ((x, t) :: c) τ) (h7 : gN τ 7 = c.length + 1) {u : Nat} (hu : U x u) : FRs π ρ U ((x, u) :: c) (sA τ 5 (va_up (gA τ 5) (gN τ 7 - 1) u)) := by
  obtain ⟨h1, h2, h3, h4, h5⟩ := h
  refine ⟨hu, h2, ?_, h4, h5.up (fun j hj => ⟨rfl, ?_, rfl⟩)⟩
  · show (if c.length = gN τ 7 - 1 then u else _) = _; rw [if_pos (by omega)]
  · show (if j = gN τ 7 - 1 then u else gA τ 5 j) = _; rw [if_neg (by omega)]
/-- a walk under way -/
def WI {X : Type} (π : X → Nat) (ρ : X → Option Nat) (U : X → Nat → Prop) (ch : X → List X) (stop : X → Bool) (bot r : Nat) (F : List (X × Nat) × Int32 × Bool) (σ : St) (c : List (X × Nat)) (s : List (X × Nat) × Int32 × Bool) (τ : St) : Prop :=
  xW τ σ ∧ gN τ 7 = c.length ∧ FRs π ρ U c τ ∧ DCh π r c ∧ RV π s τ ∧ s.2.2 = false ∧ s.2.1 = 0 ∧ mxD s.1 ≤ bot ∧ runW bot stop (rst ch π c) s = F
theorem WI.pop {X : Type} {π : X → Nat} {ρ : X → Option Nat} {U : X → Nat → Prop} {ch : X → List X} {stop : X → Bool} {bot r : Nat} {F : List (X × Nat) × Int32 × Bool} {σ : St} {x : X} {t : Nat} {c : List (X × Nat)} {s : List (X × Nat) × Int32 × Bool} {τ : St} (h : WI π ρ U ch stop bot r F σ ((x, t) :: c) s τ) (hl : (ch x).length ≤ t) : WI π ρ U ch stop bot r F σ c s (sN τ 7 (gN τ 7 - 1)) := by
  obtain ⟨h1, h2, h3, h4, h5, h6, h7, h8, h9⟩ := h
  refine ⟨(xW_dep _ _).tr h1, ?_, h3.2.2.2.2.up (fun j hj => ⟨rfl, rfl, rfl⟩), h4.2, h5.dep _, h6, h7, h8, by rw [← h9, rst_end hl]⟩
  show gN τ 7 - 1 = _
  rw [h2]; simp
/-- one more visit -/
theorem WI.step {X : Type} {π : X → Nat} {ρ : X → Option Nat} {U : X → Nat → Prop} {ch : X → List X} {stop : X → Bool} {bot r : Nat} {F : List (X × Nat) × Int32 × Bool} {σ : St} {x p : X} {t : Nat} {c : List (X × Nat)} {s : List (X × Nat) × Int32 × Bool} {τ : St} (h : WI π ρ U ch stop bot r F σ ((x, t) :: c) s τ) (hE : ELD ch π) (hr : r < 1500) (hbot : bot = if gN σ 2 = 0 then gN σ 3 else 1500) (hp : (ch x)[t]? = some p) (hU : U p 0) (hU2 : U x (t + 1)) :
    gN τ 7 < 1500 ∧ s.1.length ≤ 20000 ∧
    (gN τ 8 = 20000 → RV π F (sI (sA τ 5 (va_up (gA τ 5) (gN τ 7 - 1) (t + 1))) 0 (-5)) ∧ F.2.1 = -5) ∧
    (¬ gN τ 8 = 20000 → gN τ 2 = 0 ∧ gN τ 3 < gN τ 7 + 1 → RV π F (sI (sA τ 5 (va_up (gA τ 5) (gN τ 7 - 1) (t + 1))) 0 (-6)) ∧ F.2.1 = -6) ∧
    (¬ gN τ 8 = 20000 → ¬ (gN τ 2 = 0 ∧ gN τ 3 < gN τ 7 + 1) →
      (stop p = true → RV π F (rVU (sA τ 5 (va_up (gA τ 5) (gN τ 7 - 1) (t + 1))) (π p) (ρ p)) ∧ F.2.1 = 0 ∧ F.2.2 = true) ∧
      (stop p = false → WI π ρ U ch stop bot r F σ ((p, 0) :: (x, t + 1) :: c) (s.1 ++ [(p, c.length + 2)], 0, false) (rVU (sA τ 5 (va_up (gA τ 5) (gN τ 7 - 1) (t + 1))) (π p) (ρ p)) ∧ (rst ch π ((p, 0) :: (x, t + 1) :: c)).length + 1 = (rst ch π ((x, t) :: c)).length)) := by
  obtain ⟨h1, h2, h3, h4, h5, h6, h7, h8, h9⟩ := h
  have hlt : π p < π x := hE x p (List.mem_of_getElem? hp)
  have hd := h4.1
  simp only [List.length_cons] at h2
  have e2 := h1.2.1
  have e3 := h1.2.2.1
  rw [rst_go hE hp, runW_cons] at h9
  have h5b := h5.beg (va_up (gA τ 5) (gN τ 7 - 1) (t + 1))
  refine ⟨by omega, h5.2.1, fun z => ?_, fun z z2 => ?_, fun z z2 => ?_⟩
  · have hs : stp bot stop s (p, c.length + 2) = (s.1, -5, true) := by rw [stp, if_neg (by rw [h6]; decide), if_pos (by rw [← h5.1]; exact z)]
    rw [hs, runW_over _ rfl] at h9
    subst h9
    exact ⟨h5b.halt _, rfl⟩
  · have hb : bot < c.length + 2 := by rw [hbot, if_pos (by omega)]; omega
    have hs : stp bot stop s (p, c.length + 2) = (s.1, -6, true) := by rw [stp, if_neg (by rw [h6]; decide), if_neg (by rw [← h5.1]; exact z), if_pos hb]
    rw [hs, runW_over _ rfl] at h9
    subst h9
    exact ⟨h5b.halt _, rfl⟩
  · have hb : ¬ bot < c.length + 2 := by
      rw [hbot]; split
      · omega
      · omega
    have hs : stp bot stop s (p, c.length + 2) = (s.1 ++ [(p, c.length + 2)], 0, stop p) := by rw [stp, if_neg (by rw [h6]; decide), if_neg (by rw [← h5.1]; exact z), if_neg hb, h7]
    rw [hs] at h9
    have hl : s.1.length < 20000 := by have := h5.1; have := h5.2.1; omega
    refine ⟨fun hst => ?_, fun hst => ?_⟩
    · rw [hst, runW_over _ rfl] at h9
      subst h9
      have := h5b.vis (n := c.length + 1) h2 hl p (ρ p) true
      rw [h7] at this
      exact ⟨this, rfl, rfl⟩
    · rw [hst] at h9
      have hv := h5b.vis (n := c.length + 1) h2 hl p (ρ p) false
      rw [h7] at hv
      refine ⟨⟨(xW_vis _ _ _).tr ((xW_beg _ _).tr h1), ?_, (h3.beg h2 hU2).vis h2 hU, ⟨by simp only [List.length_cons]; omega, hd, h4.2⟩, hv, rfl, rfl, by simp only [mxD_snoc]; omega, h9⟩, ?_⟩
      · show gN τ 7 + 1 = _; rw [h2]; rfl
      · rw [rst_go hE hp]; rfl
def st7 (A : Ar) (sk : Bool) (k v : Int32) (p : Nat) : Bool := sk && fst7 A k v p
def wkR (F : List (Nat × Nat) × Int32 × Bool) : Int32 := if F.2.1 = 0 then (if F.2.2 = true then nI F.1.length - nI 1 else -1) else F.2.1
def rCal (σ : St) (mx : Nat) : Nat := if gN σ 2 = 0 then mx else if gN σ 2 = 3 then min mx (gN σ 3) else 0
def PWk (G : Gx) (a : Nat → Nat) (σ : St) (F : List (Nat × Nat) × Int32 × Bool) (rv : Option Value) (w : va_W) : Prop := rv = some (.int (wkR F)) ∧ ∃ τ, w = rw G a τ ∧ xW τ σ ∧ RV id F τ ∧ gN τ 5 = F.1.length ∧ gN τ 6 = rCal σ (mxD F.1)

