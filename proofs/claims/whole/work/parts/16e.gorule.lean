theorem stp_mx {X : Type} {bot : Nat} {stop : X → Bool} {s : List (X × Nat) × Int32 × Bool} {x : X × Nat} (h : mxD s.1 ≤ bot) : mxD (stp bot stop s x).1 ≤ bot := by
  rw [stp]; split
  · exact h
  · split
    · exact h
    · split
      · exact h
      · rw [mxD_snoc]; omega
theorem runW_mx {X : Type} {bot : Nat} {stop : X → Bool} : ∀ (L : List (X × Nat)) {s : List (X × Nat) × Int32 × Bool}, mxD s.1 ≤ bot → mxD (runW bot stop L s).1 ≤ bot
  | [], _, h => h
  | _ :: L, _, h => runW_mx L (stp_mx h)
abbrev goB (σ : St) : Nat := if gN σ 7 = 0 then gN σ 8 else 1500
theorem TKR.go {X : Type} {π : X → Nat} {UX : X → Prop} {nt : X → Nat} {ch : X → List X} {stop : X → Bool} {tk : Nat} {Ext : List (X × Nat) → (List (X × Nat) × Int32 × Bool) → St → Prop} {ExtL : X → List (X × Nat) → (List (X × Nat) × Int32 × Bool) → St → Prop} {EH : St → Prop}
    (hT : TKR π UX nt ch stop tk Ext ExtL EH) (htk : isT tk) (hE : ELD ch π) (hU : ∀ x p, UX x → p ∈ ch x → UX p) {σ : St} {x : X} (h7 : gN σ 7 ≤ 3) (h8a : 1 ≤ gN σ 8) (h8b : gN σ 8 ≤ 300) (hw : ∀ k, gA σ 8 k ≤ 20000) (hUx : UX x) (hx : π x < 1500)
    (e1 : pE (visPre (goS σ tk) 1 (π x)) 1 (π x)) (e2 : ovr (tEnter (visPre (goS σ tk) 1 (π x)) 1 (π x)) = stop x) (e3 : stop x = true → EH (tEnter (visPre (goS σ tk) 1 (π x)) 1 (π x)))
    (e4 : stop x = false → Ext [(x, 0)] ([(x, 1)], 0, false) (tEnter (visPre (goS σ tk) 1 (π x)) 1 (π x))) :
    preG σ tk (π x) ∧ RW (runW (goB σ) stop (vis ch π x 1) ([], 0, false)) (goW σ tk (π x)) ∧ gN (goW σ tk (π x)) 12 = tk ∧ ovr (goW σ tk (π x)) = (runW (goB σ) stop (vis ch π x 1) ([], 0, false)).2.2 ∧
      ((runW (goB σ) stop (vis ch π x 1) ([], 0, false)).2.2 = true → EH (goW σ tk (π x))) ∧
      ((runW (goB σ) stop (vis ch π x 1) ([], 0, false)).2.2 = false → ∃ y, π y = π x ∧ ExtL y [] (runW (goB σ) stop (vis ch π x 1) ([], 0, false)) (goW σ tk (π x))) := by
  have hb1 : 1 ≤ goB σ := by simp only [goB]; split <;> omega
  have hb2 : goB σ < 1501 := by simp only [goB]; split <;> omega
  have g12 : gN (goS σ tk) 12 = tk := rfl
  have g13 : gN (goS σ tk) 13 = goB σ := rfl
  have g9 : gN (goS σ tk) 9 = 0 := rfl
  have g10 : gN (goS σ tk) 10 = 0 := rfl
  have hR0 : RW (([], 0, false) : List (X × Nat) × Int32 × Bool) (goS σ tk) := ⟨rfl, rfl, rfl, fun k k1 k2 => by simp [mxD] at k2; omega, hw, by simp⟩
  have hR1 : RW (([(x, 1)], 0, false) : List (X × Nat) × Int32 × Bool) (visPre (goS σ tk) 1 (π x)) := hR0.vis (x := x) (b := false) (Nat.le_refl _) (by simp [mxD]) (by simp)
  have w := wc_enter (visPre (goS σ tk) 1 (π x)) 1 (π x)
  have w2 := w
  simp only [wc, Prod.mk.injEq] at w2
  have hR2 := hR1.ofwc w
  have hv : visS (goS σ tk) 1 (π x) = tEnter (visPre (goS σ tk) 1 (π x)) 1 (π x) := by
    rw [visS, if_neg (by rw [g9]; decide), if_neg (by rw [g13]; omega)]
  have hpV : preV (goS σ tk) 1 (π x) := ⟨by rw [g12]; exact htk, by rw [g9]; omega, by rw [g13]; exact hb2, by rw [g10]; omega, by omega, fun _ _ => ⟨Nat.lt_of_le_of_lt (hw 1) (by decide), e1⟩⟩
  have hs : stp (goB σ) stop (([], 0, false) : List (X × Nat) × Int32 × Bool) (x, 1) = ([(x, 1)], 0, stop x) := by
    rw [stp, if_neg (by simp), if_neg (by simp), if_neg (by simp only; omega)]; rfl
  rw [vis_rst hE, runW_cons, hs]
  rcases hst : stop x with _ | _
  · -- the walk goes on
    have e4 := e4 hst
    rw [hst] at e2
    have hJ : JX π UX nt ch stop tk (goB σ) (π x) (runW (goB σ) stop (rst ch π [(x, 0)]) ([(x, 1)], 0, false)) [(x, 0)] ([(x, 1)], 0, false) (tEnter (visPre (goS σ tk) 1 (π x)) 1 (π x)) := by
      refine ⟨by rw [w2.1]; exact g12, by rw [w2.2.1]; exact g13, e2, hR2, rfl, ?_, ⟨by simp, trivial⟩, by simp [mxD], by simp [mxD], rfl, trivial, trivial⟩
      rw [w2.2.2.2.2.2.1, w2.2.2.2.2.2.2.1]
      exact ⟨hUx, Nat.zero_le _, rfl, rfl, trivial⟩
    obtain ⟨r1, r2, r3⟩ := hT.walk htk hE hU hb2 hx x _ _ hJ e4
    have hgo : goW σ tk (π x) = wlk 1 (π x) 0 (tEnter (visPre (goS σ tk) 1 (π x)) 1 (π x)) := by
      rw [goW, hv, if_neg (by rw [e2]; decide)]
    have hmx : mxD (runW (goB σ) stop (rst ch π [(x, 0)]) ([(x, 1)], 0, false)).1 ≤ goB σ := runW_mx _ (by simp [mxD]; exact hb1)
    rw [preG, hgo, hv]
    rcases ho : ovr (wlk 1 (π x) 0 (tEnter (visPre (goS σ tk) 1 (π x)) 1 (π x))) with _ | _
    · obtain ⟨z1, z2, z3, z4⟩ := r3 ho
      refine ⟨⟨htk, h7, h8a, h8b, hpV, fun _ => r1, by rw [z2.2.1]; omega⟩, z2, z3, z1.symm, fun h => absurd (h.symm.trans z1) (by decide), fun _ => ?_⟩
      obtain ⟨y, y1, y2, _⟩ := z4
      exact ⟨y, y1, y2⟩
    · obtain ⟨z1, z2, z3, z4⟩ := r2 ho
      exact ⟨⟨htk, h7, h8a, h8b, hpV, fun _ => r1, by rw [z2.2.1]; omega⟩, z2, z4, z1.symm, fun _ => z3, fun h => absurd (h.symm.trans z1) (by decide)⟩
  · rw [hst] at e2
    have hgo : goW σ tk (π x) = tEnter (visPre (goS σ tk) 1 (π x)) 1 (π x) := by rw [goW, hv, if_pos e2]
    rw [runW_over _ rfl, preG, hgo, hv]
    refine ⟨⟨htk, h7, h8a, h8b, hpV, fun h => absurd (h.symm.trans e2) (by decide), by rw [hR2.2.1]; simp [mxD]⟩, ⟨hR2.1, hR2.2.1, hR2.2.2.1, hR2.2.2.2.1, hR2.2.2.2.2.1, hR2.2.2.2.2.2⟩, by rw [w2.1]; exact g12, e2, fun _ => e3 hst, fun h => by cases h⟩
