/-- ALIKE -/
def akD (A : Ar) (x : Nat × Nat) : Bool := decide (¬ (aK A x.1 = aK A x.2 ∧ aV A x.1 = aV A x.2 ∧ (aP A x.1).length = (aP A x.2).length))
def akC (A : Ar) (x : Nat × Nat) : List (Nat × Nat) := if x.1 = x.2 then [] else (aP A x.1).zip (aP A x.2)
theorem akC_mem {A : Ar} {x p : Nat × Nat} (h : p ∈ akC A x) : p.1 ∈ aP A x.1 ∧ p.2 ∈ aP A x.2 := by
  simp only [akC] at h
  split at h
  · cases h
  · obtain ⟨p1, p2⟩ := p
    exact ⟨(List.of_mem_zip h).1, (List.of_mem_zip h).2⟩
theorem akC_eld {A : Ar} (hA : WA A) : ELD (akC A) Prod.fst := fun _ _ hp => hA.lt (akC_mem hp).1
def UA2 (A : Ar) (x : Nat × Nat) : Prop := x.1 < aN A ∧ x.2 < aN A
theorem akC_get {A : Ar} {x : Nat × Nat} {t : Nat} (hne : ¬ x.1 = x.2) (hl : (aP A x.1).length = (aP A x.2).length) (ht : t < (aP A x.1).length) : (akC A x)[t]? = some ((aP A x.1).getD t 0, (aP A x.2).getD t 0) := by
  rw [akC, if_neg hne, List.getElem?_eq_getElem (by rw [List.length_zip]; omega)]
  simp [List.getD_eq_getElem?_getD, List.getElem?_eq_getElem ht, List.getElem?_eq_getElem (show t < (aP A x.2).length by omega)]
theorem go_24 {A : Ar} {σ : St} {d : Nat} (hG : RG A σ) (hd : d < aN A) (hb : gA σ 9 1 < aN A) : preG σ 24 d ∧ RW (runW (goB σ) (akD A) (vis (akC A) Prod.fst (d, gA σ 9 1) 1) ([], 0, false)) (goW σ 24 d) ∧ gB (goW σ 24 d) 24 = (runW (goB σ) (akD A) (vis (akC A) Prod.fst (d, gA σ 9 1) 1) ([], 0, false)).2.2 ∧ kp (goW σ 24 d) = kp σ := by
  have hA := hG.2.1
  have hR : ∀ ρ, kp ρ = kp σ → RCd A ρ := fun ρ e => hG.1.ofk e
  have hdif : ∀ ρ, kp ρ = kp σ → ∀ x y, x < aN A → y < aN A → dif ρ x y = akD A (x, y) := by
    intro ρ e x y hx hy
    have q1 := (hR ρ e).2.1 x hx
    have q2 := (hR ρ e).2.1 y hy
    rw [dif, q1.1, q1.2, q2.1, q2.2, (hR ρ e).np hx, (hR ρ e).np hy]; rfl
  have hT : TB Prod.fst (UA2 A) (fun x => (aP A x.1).length) (akC A) (akD A) 24 (fun ρ => kp ρ = kp σ) (fun ρ x _ k => gA ρ 9 k = x.2 ∧ akD A x = false) (fun _ _ _ _ => True) (fun _ _ _ => True) := by
    refine ⟨fun ρ e x hx => ⟨(hR ρ e).okd hA hx.1, (hR ρ e).np hx.1⟩, fun ρ w _ e => e, ?_, ?_, ?_, ?_⟩
    · intro x
      simp only [akC]; split
      · simp
      · rw [List.length_zip]; omega
    · intro ρ x t k h12 hU hk e _ hl
      rw [tLeave_no (by omega) (by omega) (by omega)]
      exact ⟨pL_of (by omega) (by omega) hk ((hR ρ e).okd hA hU.1), e, trivial, fun _ _ _ _ h => h⟩
    · intro ρ x t k h12 hU hk e hP _ hn
      have n12 : gN (nxt1 ρ k t) 12 = 24 := h12
      have en : kp (nxt1 ρ k t) = kp σ := e
      have hl : (aP A x.1).length = (aP A x.2).length := by
        have := hP.2
        simp only [akD, decide_eq_false_iff_not, Classical.not_not] at this
        exact this.2.2
      have n9 : gA (nxt1 ρ k t) 9 k = x.2 := hP.1
      have hn : t < (aP A x.1).length := hn
      have hn2 : t < (aP A x.2).length := by omega
      have eS : tChS (nxt1 ρ k t) k x.1 t = tC24 (nxt1 ρ k t) k x.1 t := by simp [tChS, n12]
      have eRr : tChR (nxt1 ρ k t) k x.1 t = tC24r (nxt1 ρ k t) k x.1 t := by simp [tChR, n12]
      have hpC : pC (nxt1 ρ k t) k x.1 t := ⟨hk, (hR _ en).okd hA hU.1, by rw [(hR _ en).np hU.1]; exact hn, fun _ => by rw [n9]; exact ⟨(hR _ en).okd hA hU.2, by rw [(hR _ en).np hU.1, (hR _ en).np hU.2]; exact hl⟩, fun h => by omega⟩
      rw [eS, eRr]
      by_cases hne : x.1 = x.2
      · have e1 : tC24 (nxt1 ρ k t) k x.1 t = nxt1 ρ k t := by rw [tC24, n9, if_pos hne.symm]
        have e2 : tC24r (nxt1 ρ k t) k x.1 t = none := by rw [tC24r, n9, if_pos hne.symm]
        have e3 : akC A x = [] := by rw [akC, if_pos hne]
        rw [e1, e2, e3]
        exact ⟨hpC, rfl, rfl, en, fun _ _ _ _ h => h, fun p hp => by simp at hp⟩
      · have e1 : tC24 (nxt1 ρ k t) k x.1 t = sA (nxt1 ρ k t) 9 (va_up (gA ρ 9) (k + 1) ((aP A x.2).getD t 0)) := by
          rw [tC24, n9, if_neg (fun h => hne h.symm), (hR _ en).2.2.1 x.2 (Nat.le_of_lt hU.2), (hR _ en).2.2.2 x.2 hU.2 t hn2]; rfl
        have e2 : tC24r (nxt1 ρ k t) k x.1 t = ((akC A x)[t]?).map Prod.fst := by
          rw [tC24r, n9, if_neg (fun h => hne h.symm), (hR _ en).pr hU.1 t, akC_get hne hl hn]
          simp [List.getD_eq_getElem?_getD, List.getElem?_eq_getElem hn]
        rw [e1, e2]
        refine ⟨hpC, rfl, rfl, e, fun y u j hj h => ⟨?_, h.2⟩, ?_⟩
        · show (if j = k + 1 then (aP A x.2).getD t 0 else gA ρ 9 j) = _
          rw [if_neg (by omega)]; exact h.1
        · intro p hp hUp hk1
          rw [akC_get hne hl hn] at hp
          have hp := Option.some.inj hp
          have v12 : gN (visPre (sA (nxt1 ρ k t) 9 (va_up (gA ρ 9) (k + 1) ((aP A x.2).getD t 0))) (k + 1) p.1) 12 = 24 := h12
          have v9 : gA (visPre (sA (nxt1 ρ k t) 9 (va_up (gA ρ 9) (k + 1) ((aP A x.2).getD t 0))) (k + 1) p.1) 9 (k + 1) = p.2 := by
            show (if k + 1 = k + 1 then (aP A x.2).getD t 0 else gA ρ 9 (k + 1)) = _
            rw [if_pos rfl, ← hp]
          have ev : kp (visPre (sA (nxt1 ρ k t) 9 (va_up (gA ρ 9) (k + 1) ((aP A x.2).getD t 0))) (k + 1) p.1) = kp σ := e
          rw [tEnter_24 v12]
          have o12 : gN (tE24 (visPre (sA (nxt1 ρ k t) 9 (va_up (gA ρ 9) (k + 1) ((aP A x.2).getD t 0))) (k + 1) p.1) (k + 1) p.1) 12 = 24 := h12
          refine ⟨⟨hk1, (hR _ ev).okd hA hUp.1, fun _ => by rw [v9]; exact (hR _ ev).okd hA hUp.2, fun h => by omega, fun h => by omega⟩, fun _ => ?_, e, fun hs => ⟨⟨v9, hs⟩, trivial⟩, fun y u j hj h => h⟩
          rw [ovr, o12]
          show dif _ p.1 (gA (visPre (sA (nxt1 ρ k t) 9 (va_up (gA ρ 9) (k + 1) ((aP A x.2).getD t 0))) (k + 1) p.1) 9 (k + 1)) = _
          rw [v9]; exact hdif _ ev _ _ hUp.1 hUp.2
    · intro ρ x t k p h12 hU hUp hk hn e _ hP hp
      rw [tTake_no (by omega) (by omega) (by omega)]
      exact ⟨e, hP, trivial, fun _ _ _ _ h => h⟩
  have v12 : gN (visPre (goS σ 24) 1 d) 12 = 24 := rfl
  have v9 : gA (visPre (goS σ 24) 1 d) 9 1 = gA σ 9 1 := rfl
  have hx : d < 1500 := by have := hA.1; omega
  obtain ⟨r1, r2, r3, r4, r5, _⟩ := hT.go (x := (d, gA σ 9 1)) (by simp [isT]) (akC_eld hA) (fun x p hx hp => ⟨by have := hA.lt (akC_mem hp).1; have := hx.1; omega, by have := hA.lt (akC_mem hp).2; have := hx.2; omega⟩) hG ⟨hd, hb⟩ hx
    ⟨by decide, hG.1.okd hA hd, fun _ => (by rw [v9]; exact hG.1.okd hA hb), fun h => by rw [v12] at h; omega, fun h => by rw [v12] at h; omega⟩
    (by rw [tEnter_24 v12, ovr, show gN (tE24 (visPre (goS σ 24) 1 d) 1 d) 12 = 24 from rfl]
        show dif _ d (gA (visPre (goS σ 24) 1 d) 9 1) = _
        rw [v9]; exact hdif _ rfl _ _ hd hb)
    (by rw [tEnter_24 v12]; rfl) (fun hs => by rw [tEnter_24 v12]; exact ⟨⟨v9, hs⟩, trivial⟩)
  have r3 : gN (goW σ 24 d) 12 = 24 := r3
  refine ⟨r1, r2, ?_, r5⟩
  have r4 : ovr (goW σ 24 d) = _ := r4
  rw [ovr, r3] at r4
  exact r4
