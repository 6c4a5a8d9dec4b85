def pm {X : Type} (π : X → Nat) (c : List (X × Nat)) : List (Nat × Nat) := c.map (fun q => (π q.1, q.2))
theorem pm_len {X : Type} (π : X → Nat) (c : List (X × Nat)) : (pm π c).length = c.length := List.length_map _
theorem pm_cons {X : Type} {π : X → Nat} {c : List (X × Nat)} {d t : Nat} {c' : List (Nat × Nat)} (h : (d, t) :: c' = pm π c) : ∃ x c2, c = (x, t) :: c2 ∧ d = π x ∧ c' = pm π c2 := by
  cases c with
  | nil => cases h
  | cons q c2 =>
    obtain ⟨x, u⟩ := q
    simp only [pm, List.map_cons, List.cons.injEq, Prod.mk.injEq] at h
    exact ⟨x, c2, by rw [h.1.2], h.1.1, h.2⟩
set_option maxHeartbeats 2000000 in
theorem TKR.walk {X : Type} {π : X → Nat} {UX : X → Prop} {nt : X → Nat} {ch : X → List X} {stop : X → Bool} {tk bot r : Nat} {F : List (X × Nat) × Int32 × Bool} {Ext : List (X × Nat) → (List (X × Nat) × Int32 × Bool) → St → Prop} {ExtL : X → List (X × Nat) → (List (X × Nat) × Int32 × Bool) → St → Prop} {EH : St → Prop}
    (hT : TKR π UX nt ch stop tk Ext ExtL EH) (htk : isT tk) (hE : ELD ch π) (hU : ∀ x p, UX x → p ∈ ch x → UX p) (hbot : bot < 1501) (hr : r < 1500) :
    ∀ (x : X) (s : List (X × Nat) × Int32 × Bool) (σ : St), JX π UX nt ch stop tk bot r F [(x, 0)] s σ → Ext [(x, 0)] s σ →
      OKw 1 (π x) 0 σ ∧ (ovr (wlk 1 (π x) 0 σ) = true → F.2.2 = true ∧ RW F (wlk 1 (π x) 0 σ) ∧ EH (wlk 1 (π x) 0 σ) ∧ gN (wlk 1 (π x) 0 σ) 12 = tk) ∧
      (ovr (wlk 1 (π x) 0 σ) = false → F.2.2 = false ∧ RW F (wlk 1 (π x) 0 σ) ∧ gN (wlk 1 (π x) 0 σ) 12 = tk ∧ ∃ y, π y = π x ∧ ExtL y [] F (wlk 1 (π x) 0 σ) ∧ LK ch [(y, 0)]) := by
  obtain ⟨k1, k2, k3, k4, k5, k6, k7⟩ := hT
  have R := wlk_rule
    (fun c' σ => ∃ c s, c' = pm π c ∧ JX π UX nt ch stop tk bot r F c s σ ∧ Ext c s σ)
    (fun d c' σ => ∃ x c s, d = π x ∧ c' = pm π c ∧ UX x ∧ JX π UX nt ch stop tk bot r F c s σ ∧ LK ch ((x, 0) :: c) ∧ ExtL x c s σ)
    (fun c' σ => ∃ c, c' = pm π c ∧ gN σ 12 = tk ∧ FRM π UX nt c (gA σ 6) (gA σ 7) ∧ DCh π r c ∧ RW F σ ∧ F.2.2 = true ∧ EH σ)
    ?_ ?_ ?_ ?_ ?_
  · intro x s σ hJ hX
    obtain ⟨r1, r2, r3⟩ := R 1 (π x) 0 σ [] rfl ⟨[(x, 0)], s, rfl, hJ, hX⟩
    refine ⟨r1, fun h => ?_, fun h => ?_⟩
    · obtain ⟨c, _, z2, _, _, z3, z4, z5⟩ := r2 h
      exact ⟨z4, z3, z5, z2⟩
    · obtain ⟨y, c, s', z1, z2, z3, z4, z5, z6⟩ := r3 h
      cases c with
      | cons q c => cases z2
      | nil =>
        obtain ⟨q1, _, _, q4, q5, _, _, _, _, q10, _⟩ := z4
        have q10 : s' = F := q10
        subst q10
        exact ⟨q5, q4, q1, y, z1.symm, z6, z5⟩
  · intro d t c' σ ⟨c0, s, hc0, hJ, hX⟩
    obtain ⟨x, c, rfl, rfl, rfl⟩ := pm_cons hc0
    rw [pm_len]
    obtain ⟨q1, q2, q3, q4, q5, ⟨q6a, q6b, q6c, q6d, q6e⟩, ⟨q7a, q7b⟩, q8, q9, q10, q11⟩ := hJ
    exact ⟨by rw [q1]; exact htk, by omega, (k1 _ _ _ hX x q6a).1, q6c, q6d, q3⟩
  · intro d t c' σ ⟨c0, s, hc0, hJ, hX⟩ hn
    obtain ⟨x, c, rfl, rfl, rfl⟩ := pm_cons hc0
    rw [pm_len]
    have hJ0 := hJ
    obtain ⟨q1, q2, q3, q4, q5, ⟨q6a, q6b, q6c, q6d, q6e⟩, ⟨q7a, q7b⟩, q8, q9, q10, q11⟩ := hJ
    rw [(k1 _ _ _ hX x q6a).2] at hn
    obtain ⟨e1, e2, e3⟩ := k5 x t c s σ q1 q6a (by omega) hX hn
    refine ⟨e2, x, c, s, rfl, rfl, q6a, ?_, q11, e3⟩
    refine JX.ofwc (σ := σ) ⟨q1, q2, q3, q4, q5, q6e, q7b, by simp at q8; omega, q9, by rw [← q10, rst_end e1], q11.2⟩ (wc_leave _ _ _) (ovr_leave (by rw [q1]; exact htk) _ _)
  · intro d t c' σ ⟨c0, s, hc0, hJ, hX⟩ hn
    obtain ⟨x, c, rfl, rfl, rfl⟩ := pm_cons hc0
    rw [pm_len]
    obtain ⟨q1, q2, q3, q4, q5, ⟨q6a, q6b, q6c, q6d, q6e⟩, ⟨q7a, q7b⟩, q8, q9, q10, q11⟩ := hJ
    rw [(k1 _ _ _ hX x q6a).2] at hn
    obtain ⟨f1, f2, f3, f4, f5⟩ := k6 x t c s σ q1 q6a (by omega) hX hn
    have hwc : wc (tChS (nxt1 σ (c.length + 1) t) (c.length + 1) (π x) t) = wc (nxt1 σ (c.length + 1) t) := wc_choose _ _ _ _
    have hw2 := hwc
    simp only [wc, Prod.mk.injEq] at hw2
    obtain ⟨e1, e2, e3, e4, e5, e6, e7, e8⟩ := hw2
    have e1 : gN (tChS (nxt1 σ (c.length + 1) t) (c.length + 1) (π x) t) 12 = tk := by rw [e1]; exact q1
    have e2 : gN (tChS (nxt1 σ (c.length + 1) t) (c.length + 1) (π x) t) 13 = bot := by rw [e2]; exact q2
    have e3 : gN (tChS (nxt1 σ (c.length + 1) t) (c.length + 1) (π x) t) 9 = s.1.length := by rw [e3]; exact q4.1
    have e4 : gN (tChS (nxt1 σ (c.length + 1) t) (c.length + 1) (π x) t) 10 = mxD s.1 := by rw [e4]; exact q4.2.1
    have e6 : gA (tChS (nxt1 σ (c.length + 1) t) (c.length + 1) (π x) t) 6 = gA σ 6 := e6
    have e7 : gA (tChS (nxt1 σ (c.length + 1) t) (c.length + 1) (π x) t) 7 = va_up (gA σ 7) (c.length + 1) (t + 1) := e7
    have e8 : gA (tChS (nxt1 σ (c.length + 1) t) (c.length + 1) (π x) t) 8 = gA σ 8 := e8
    have eRW : RW s (tChS (nxt1 σ (c.length + 1) t) (c.length + 1) (π x) t) := RW.ofwc (σ := nxt1 σ (c.length + 1) t) q4 hwc
    have hFl : FRM π UX nt c (gA σ 6) (va_up (gA σ 7) (c.length + 1) (t + 1)) := q6e.up (fun j hj => ⟨rfl, if_neg (by omega)⟩)
    have hF1 : FRM π UX nt ((x, t + 1) :: c) (gA (tChS (nxt1 σ (c.length + 1) t) (c.length + 1) (π x) t) 6) (gA (tChS (nxt1 σ (c.length + 1) t) (c.length + 1) (π x) t) 7) := by
      rw [e6, e7]; exact ⟨q6a, hn, q6c, if_pos rfl, hFl⟩
    have hD1 : DCh π r ((x, t + 1) :: c) := ⟨q7a, q7b⟩
    refine ⟨f1, fun hc => ?_, fun p hp => ?_⟩
    · rw [f2, Option.map_eq_none_iff] at hc
      obtain ⟨g1, g2⟩ := f4 hc
      refine ⟨g1, fun h => absurd ((f3.symm.trans h).symm.trans q3) (by decide), fun _ => ⟨x, c, s, rfl, rfl, q6a, ?_, q11, g2⟩⟩
      have hlen : (ch x).length ≤ t := List.getElem?_eq_none_iff.mp hc
      refine JX.ofwc (σ := tChS (nxt1 σ (c.length + 1) t) (c.length + 1) (π x) t) ⟨e1, e2, by rw [f3]; exact q3, eRW, q5, by rw [e6, e7]; exact hFl, q7b, by simp at q8; omega, q9, by rw [← q10, rst_end hlen], q11.2⟩ (wc_leave _ _ _) (ovr_leave (by rw [e1]; exact htk) _ _)
    · rw [f2] at hp
      obtain ⟨px, hpx, rfl⟩ := Option.map_eq_some_iff.mp hp
      have hmem : px ∈ ch x := List.mem_of_getElem? hpx
      have hUp : UX px := hU x px q6a hmem
      have hlt : π px < π x := hE x px hmem
      obtain ⟨g1, g2, g3, g4, g5⟩ := f5 px hpx hUp
      have g3 := g3 q3
      have hk1 : 1 ≤ c.length + 2 := by omega
      have hk2 : c.length + 2 ≤ mxD s.1 + 1 := by simp at q8; omega
      rw [rst_go hE hpx, runW_cons] at q10
      refine ⟨hlt, ⟨by rw [e1]; exact htk, by rw [e3]; exact q4.2.2.2.2.2, by rw [e2]; exact hbot, by rw [e4]; omega, by omega, fun _ _ => ⟨by rw [e8]; have := q4.2.2.2.2.1 (c.length + 2); omega, g2⟩⟩, by rw [f3]; exact q3, ?_, ?_⟩
      · intro ho
        refine ⟨(x, t + 1) :: c, rfl, by rw [visS_12]; exact e1, ?_, hD1, ?_⟩
        · rw [visS]
          by_cases z1 : gN (tChS (nxt1 σ (c.length + 1) t) (c.length + 1) (π x) t) 9 = 20000
          · rw [if_pos z1]; exact hF1
          · rw [if_neg z1]
            by_cases z2 : gN (tChS (nxt1 σ (c.length + 1) t) (c.length + 1) (π x) t) 13 < c.length + 2
            · rw [if_pos z2]; exact hF1
            · rw [if_neg z2]
              have w := wc_enter (visPre (tChS (nxt1 σ (c.length + 1) t) (c.length + 1) (π x) t) (c.length + 2) (π px)) (c.length + 2) (π px)
              simp only [wc, Prod.mk.injEq] at w
              rw [w.2.2.2.2.2.1, w.2.2.2.2.2.2.1]
              exact hF1.up (fun j hj => ⟨if_neg (by simp at hj; omega), if_neg (by simp at hj; omega)⟩)
        · rw [visS] at ho ⊢
          by_cases z1 : gN (tChS (nxt1 σ (c.length + 1) t) (c.length + 1) (π x) t) 9 = 20000
          · rw [if_pos z1] at ho ⊢
            have hs : stp bot stop s (px, c.length + 2) = (s.1, -5, true) := by rw [stp, if_neg (by rw [q5]; decide), if_pos (by rw [← e3]; exact z1)]
            rw [hs, runW_over _ rfl] at q10
            subst q10
            exact ⟨eRW.halt _, rfl, k4 _ _ e1 g1⟩
          · rw [if_neg z1] at ho ⊢
            by_cases z2 : gN (tChS (nxt1 σ (c.length + 1) t) (c.length + 1) (π x) t) 13 < c.length + 2
            · rw [if_pos z2] at ho ⊢
              have hs : stp bot stop s (px, c.length + 2) = (s.1, -6, true) := by rw [stp, if_neg (by rw [q5]; decide), if_neg (by rw [← e3]; exact z1), if_pos (by rw [← e2]; exact z2)]
              rw [hs, runW_over _ rfl] at q10
              subst q10
              exact ⟨eRW.halt _, rfl, k4 _ _ e1 g1⟩
            · rw [if_neg z2] at ho ⊢
              rw [g3] at ho
              have hs : stp bot stop s (px, c.length + 2) = (s.1 ++ [(px, c.length + 2)], s.2.1, true) := by rw [stp, if_neg (by rw [q5]; decide), if_neg (by rw [← e3]; exact z1), if_neg (by rw [← e2]; exact z2), ho]
              rw [hs, runW_over _ rfl] at q10
              subst q10
              have hl : s.1.length < 20000 := by have := q4.2.2.2.2.2; omega
              exact ⟨(eRW.vis hk1 hk2 hl).ofwc (wc_enter _ _ _), rfl, g4 ho⟩
      · intro ho
        rw [visS] at ho ⊢
        by_cases z1 : gN (tChS (nxt1 σ (c.length + 1) t) (c.length + 1) (π x) t) 9 = 20000
        · rw [if_pos z1, ovr_halt] at ho; cases ho
        · rw [if_neg z1] at ho ⊢
          by_cases z2 : gN (tChS (nxt1 σ (c.length + 1) t) (c.length + 1) (π x) t) 13 < c.length + 2
          · rw [if_pos z2, ovr_halt] at ho; cases ho
          · rw [if_neg z2] at ho ⊢
            have ho1 := ho
            rw [g3] at ho
            have hs : stp bot stop s (px, c.length + 2) = (s.1 ++ [(px, c.length + 2)], s.2.1, false) := by rw [stp, if_neg (by rw [q5]; decide), if_neg (by rw [← e3]; exact z1), if_neg (by rw [← e2]; exact z2), ho]
            rw [hs] at q10
            have hl : s.1.length < 20000 := by have := q4.2.2.2.2.2; omega
            have w := wc_enter (visPre (tChS (nxt1 σ (c.length + 1) t) (c.length + 1) (π x) t) (c.length + 2) (π px)) (c.length + 2) (π px)
            have w2 := w
            simp only [wc, Prod.mk.injEq] at w2
            refine ⟨(px, 0) :: (x, t + 1) :: c, (s.1 ++ [(px, c.length + 2)], s.2.1, false), rfl, ⟨by rw [w2.1]; exact e1, by rw [w2.2.1]; exact e2, ho1, (eRW.vis hk1 hk2 hl).ofwc w, rfl, ?_, ⟨by simp; omega, hD1⟩, ?_, ?_, q10, ⟨⟨by omega, hpx⟩, q11⟩⟩, g5 ho⟩
            · rw [w2.2.2.2.2.2.1, w2.2.2.2.2.2.2.1]
              refine ⟨hUp, Nat.zero_le _, if_pos rfl, if_pos rfl, hF1.up (fun j hj => ⟨if_neg (by simp at hj ⊢; omega), if_neg (by simp at hj ⊢; omega)⟩)⟩
            · rw [mxD_snoc]; simp only [List.length_cons] at q8 ⊢; omega
            · rw [mxD_snoc]; simp only; omega
  · intro d t c' σ p ⟨px, c0, s, hp, hc0, hUp, hJ, hL, hX⟩ ho
    obtain ⟨x, c, rfl, rfl, rfl⟩ := pm_cons hc0
    rw [pm_len]
    have hJ0 := hJ
    obtain ⟨q1, q2, q3, q4, q5, ⟨q6a, q6b, q6c, q6d, q6e⟩, ⟨q7a, q7b⟩, q8, q9, q10, q11⟩ := hJ
    obtain ⟨v1, v2⟩ := k2 _ _ _ _ hX x q6a
    refine ⟨⟨by omega, v1, by rw [v2]; omega⟩, q6c, q6d, (x, t + 1) :: c, s, rfl, hJ0.ofwc (wc_take _ _ _ _) (ovr_take _ _ _ _), k7 x t c s σ px q1 q6a hUp (by omega) (by omega) hL.1.2 hX⟩
  · intro d t c' σ ⟨c0, hc0, z1, z2, z3, z4, z5, z6⟩
    obtain ⟨x, c, rfl, rfl, rfl⟩ := pm_cons hc0
    rw [pm_len]
    obtain ⟨q6a, q6b, q6c, q6d, q6e⟩ := z2
    obtain ⟨v1, v2⟩ := k3 _ z6 x q6a
    exact ⟨⟨by have := z3.1; omega, v1, by rw [v2]; omega⟩, q6c, q6d, c, rfl, z1, q6e, z3.2, z4, z5, z6⟩
