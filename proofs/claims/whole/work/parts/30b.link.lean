/-- the reference's rows hold the archive; ix: where the parts lie -/
def RRx (A : Ar) (ix : Nat → List Nat) (τ : St) : Prop :=
  gN τ 0 = aN A ∧ gN τ 1 = tot (aP A) (aN A) ∧
  (∀ d, d < aN A → gA τ 0 d = aK A d ∧ gJ τ 0 d = aV A d ∧ gA τ 1 d = (aP A d).length ∧ (ix d).length = (aP A d).length ∧ gP τ 0 d = (ix d)[0]? ∧ gP τ 1 d = (ix d)[(ix d).length - 1]? ∧ ∀ (i j : Nat), (ix d)[i]? = some j → j < gN τ 1 ∧ gA τ 2 j = (aP A d).getD i 0 ∧ gP τ 2 j = (ix d)[i + 1]?) ∧
  (∀ (d e i k j : Nat), d < aN A → e < aN A → (ix d)[i]? = some j → (ix e)[k]? = some j → d = e ∧ i = k)
def RRd (A : Ar) (τ : St) : Prop := ∃ ix, RRx A ix τ
/-- but for the archive all is the same -/
def RST (τ σ : St) : Prop := (∀ k, 2 ≤ k → gN τ k = gN σ k) ∧ (∀ k, 3 ≤ k → gA τ k = gA σ k) ∧ gI τ = gI σ ∧ (∀ k, 1 ≤ k → gJ τ k = gJ σ k) ∧ gL τ = gL σ ∧ gB τ = gB σ ∧ gO τ = gO σ ∧ (∀ k, 3 ≤ k → gP τ k = gP σ k)
theorem RST.rf (σ : St) : RST σ σ := ⟨fun _ _ => rfl, fun _ _ => rfl, rfl, fun _ _ => rfl, rfl, rfl, rfl, fun _ _ => rfl⟩
theorem RST.tr {a b c : St} (h : RST a b) (g : RST b c) : RST a c := by
  obtain ⟨h1, h2, h3, h4, h5, h6, h7, h8⟩ := h
  obtain ⟨g1, g2, g3, g4, g5, g6, g7, g8⟩ := g
  exact ⟨fun k hk => (h1 k hk).trans (g1 k hk), fun k hk => (h2 k hk).trans (g2 k hk), h3.trans g3, fun k hk => (h4 k hk).trans (g4 k hk), h5.trans g5, h6.trans g6, h7.trans g7, fun k hk => (h8 k hk).trans (g8 k hk)⟩
/-- the archive's rows are the same -/
def ars (σ : St) : Nat × Nat × (Nat → Nat) × (Nat → Nat) × (Nat → Nat) × (Nat → Int32) × (Nat → Option Nat) × (Nat → Option Nat) × (Nat → Option Nat) := (gN σ 0, gN σ 1, gA σ 0, gA σ 1, gA σ 2, gJ σ 0, gP σ 0, gP σ 1, gP σ 2)
theorem RRx.ofa {A : Ar} {ix : Nat → List Nat} {σ τ : St} (h : RRx A ix σ) (e : ars τ = ars σ) : RRx A ix τ := by
  simp only [ars, Prod.mk.injEq] at e
  obtain ⟨e1, e2, e3, e4, e5, e6, e7, e8, e9⟩ := e
  rw [RRx, e1, e2, e3, e4, e5, e6, e7, e8, e9]; exact h
theorem RRd.ofa {A : Ar} {σ τ : St} (h : RRd A σ) (e : ars τ = ars σ) : RRd A τ := by
  obtain ⟨ix, h⟩ := h
  exact ⟨ix, h.ofa e⟩
theorem RRx.add {A : Ar} {ix : Nat → List Nat} {τ : St} (h : RRx A ix τ) (k : Nat) (v : Int32) : RRx (adA A k v []) (va_up ix (aN A) []) (rAdd τ k v) := by
  obtain ⟨h1, h2, h3, h4⟩ := h
  have hup : ∀ d, d < aN A → va_up ix (aN A) [] d = ix d := fun d hd => va_up_ne _ _ (by omega)
  refine ⟨by show gN τ 0 + 1 = aN A + 1; rw [h1], ?_, fun d hd => ?_, fun d e i q j hd he h5 h6 => ?_⟩
  · rw [tot_ad]; exact h2
  · have hd : d < aN A + 1 := hd
    by_cases e : d = aN A
    · subst e
      rw [va_up_self]
      refine ⟨?_, ?_, ?_, ?_, ?_, ?_, fun i j hj => by simp at hj⟩
      · show (if aN A = gN τ 0 then k else _) = (if aN A = aN A then k else _); rw [h1, if_pos rfl, if_pos rfl]
      · show (if aN A = gN τ 0 then v else _) = (if aN A = aN A then v else _); rw [h1, if_pos rfl, if_pos rfl]
      · show (if aN A = gN τ 0 then 0 else _) = ((if aN A = aN A then ([] : List Nat) else _)).length; rw [h1, if_pos rfl, if_pos rfl]; rfl
      · show ([] : List Nat).length = ((if aN A = aN A then ([] : List Nat) else _)).length; rw [if_pos rfl]
      · show (if aN A = gN τ 0 then none else _) = _; rw [h1, if_pos rfl]; rfl
      · show (if aN A = gN τ 0 then none else _) = _; rw [h1, if_pos rfl]; rfl
    · obtain ⟨q1, q2, q3, q4, q5, q6, q7⟩ := h3 d (by omega)
      have ep : aP (adA A k v []) d = aP A d := va_up_ne _ _ e
      rw [hup d (by omega), ep]
      refine ⟨?_, ?_, ?_, q4, ?_, ?_, q7⟩
      · show (if d = gN τ 0 then k else gA τ 0 d) = (if d = aN A then k else aK A d); rw [h1, if_neg e, if_neg e, q1]
      · show (if d = gN τ 0 then v else gJ τ 0 d) = (if d = aN A then v else aV A d); rw [h1, if_neg e, if_neg e, q2]
      · show (if d = gN τ 0 then 0 else gA τ 1 d) = _; rw [h1, if_neg e, q3]
      · show (if d = gN τ 0 then none else gP τ 0 d) = _; rw [h1, if_neg e, q5]
      · show (if d = gN τ 0 then none else gP τ 1 d) = _; rw [h1, if_neg e, q6]
  · have hd : d < aN A + 1 := hd
    have he : e < aN A + 1 := he
    by_cases e1 : d = aN A
    · rw [e1, va_up_self] at h5; simp at h5
    · by_cases e2 : e = aN A
      · rw [e2, va_up_self] at h6; simp at h6
      · rw [hup d (by omega)] at h5
        rw [hup e (by omega)] at h6
        exact h4 d e i q j (by omega) (by omega) h5 h6
theorem RST.add (τ : St) (k : Nat) (v : Int32) : RST (rAdd τ k v) τ :=
  ⟨fun j hj => va_up_ne _ _ (by omega), fun j hj => ((va_up_ne _ _ (by omega)).trans (va_up_ne _ _ (by omega))), rfl, fun j hj => va_up_ne _ _ (by omega), rfl, rfl, rfl, fun j hj => ((va_up_ne _ _ (by omega)).trans (va_up_ne _ _ (by omega)))⟩
theorem RST.addP (τ : St) (d p : Nat) : RST (rAddP τ d p) τ := by
  rw [rAddP]; split
  · exact ⟨fun j hj => va_up_ne _ _ (by omega), fun j hj => ((va_up_ne _ _ (by omega)).trans (va_up_ne _ _ (by omega))), rfl, fun j hj => rfl, rfl, rfl, rfl, fun j hj => ((va_up_ne _ _ (by omega)).trans ((va_up_ne _ _ (by omega)).trans (va_up_ne _ _ (by omega))))⟩
  · exact ⟨fun j hj => va_up_ne _ _ (by omega), fun j hj => ((va_up_ne _ _ (by omega)).trans (va_up_ne _ _ (by omega))), rfl, fun j hj => rfl, rfl, rfl, rfl, fun j hj => ((va_up_ne _ _ (by omega)).trans (va_up_ne _ _ (by omega)))⟩
theorem rAddP_c (τ : St) (d p : Nat) : gN (rAddP τ d p) 0 = gN τ 0 ∧ gN (rAddP τ d p) 1 = gN τ 1 + 1 ∧ gA (rAddP τ d p) 0 = gA τ 0 ∧ gA (rAddP τ d p) 1 = va_up (gA τ 1) d (gA τ 1 d + 1) ∧ gA (rAddP τ d p) 2 = va_up (gA τ 2) (gN τ 1) p ∧ gJ (rAddP τ d p) 0 = gJ τ 0 ∧ gP (rAddP τ d p) 1 = va_up (gP τ 1) d (some (gN τ 1)) ∧
    gP (rAddP τ d p) 0 = (if gA τ 1 d = 0 then va_up (gP τ 0) d (some (gN τ 1)) else gP τ 0) ∧ gP (rAddP τ d p) 2 = (if gA τ 1 d = 0 then va_up (gP τ 2) (gN τ 1) none else va_up (va_up (gP τ 2) (gN τ 1) none) ((gP τ 1 d).getD 0) (some (gN τ 1))) := by
  rw [rAddP]
  by_cases q : gA τ 1 d = 0
  · rw [if_pos q, if_pos q, if_pos q]; exact ⟨rfl, rfl, rfl, rfl, rfl, rfl, rfl, rfl, rfl⟩
  · rw [if_neg q, if_neg q, if_neg q]; exact ⟨rfl, rfl, rfl, rfl, rfl, rfl, rfl, rfl, rfl⟩
theorem RRx.addP {A : Ar} {ix : Nat → List Nat} {τ : St} (h : RRx A ix τ) {d : Nat} (p : Nat) (hd : d < aN A) : RRx (adP A d p) (va_up ix d (ix d ++ [gN τ 1])) (rAddP τ d p) := by
  obtain ⟨h1, h2, h3, h4⟩ := h
  obtain ⟨c1, c2, c3, c4, c5, c6, c7, c8, c9⟩ := rAddP_c τ d p
  obtain ⟨d1, d2, d3, d4, d5, d6, d7⟩ := h3 d hd
  have eP : ∀ x, aP (adP A d p) x = if x = d then aP A d ++ [p] else aP A x := fun _ => rfl
  have hnx : ∀ (e i j : Nat), e < aN A → (ix e)[i]? = some j → gP (rAddP τ d p) 2 j = if e = d ∧ i + 1 = (ix d).length then some (gN τ 1) else (ix e)[i + 1]? := by
    intro e i j he hj
    obtain ⟨q1, q2, q3, q4, q5, q6, q7⟩ := h3 e he
    obtain ⟨w1, w2, w3⟩ := q7 i j hj
    have hlt : i < (ix e).length := (List.getElem?_eq_some_iff.mp hj).1
    rw [c9]
    by_cases z : gA τ 1 d = 0
    · rw [if_pos z, va_up_ne _ _ (by omega), w3, if_neg]
      rintro ⟨rfl, z2⟩
      omega
    · rw [if_neg z]
      have hl : (ix d)[(ix d).length - 1]? = some ((ix d)[(ix d).length - 1]'(by omega)) := List.getElem?_eq_getElem _
      rw [d6, hl]
      simp only [Option.getD_some]
      by_cases z2 : e = d ∧ i + 1 = (ix d).length
      · rw [if_pos z2]
        obtain ⟨rfl, z3⟩ := z2
        have : j = (ix e)[(ix e).length - 1]'(by omega) := by
          rw [show i = (ix e).length - 1 by omega, hl] at hj
          exact (Option.some.inj hj).symm
        rw [← this, va_up_self]
      · rw [if_neg z2, va_up_ne _ _ (fun z3 => ?_), va_up_ne _ _ (by omega), w3]
        rw [← z3] at hl
        have := h4 e d i _ j he hd hj hl
        exact z2 ⟨this.1, by omega⟩
  refine ⟨c1.trans h1, ?_, fun e he => ?_, fun e f i q j he hf h5 h6 => ?_⟩
  · rw [c2, h2]
    show _ = tot (va_up (aP A) d (aP A d ++ [p])) (aN A)
    rw [tot_up (aP A) d _ p rfl, if_pos hd]
  · have he : e < aN A := he
    obtain ⟨q1, q2, q3, q4, q5, q6, q7⟩ := h3 e he
    rw [eP, c2, c3, c4, c6, c7, c8]
    by_cases z : e = d
    · subst z
      rw [va_up_self, va_up_self, va_up_self, if_pos rfl]
      refine ⟨q1, q2, by rw [q3]; simp, by simp [q4], ?_, by simp, fun i j hj => ?_⟩
      · by_cases z0 : gA τ 1 e = 0
        · rw [if_pos z0, va_up_self]
          have : ix e = [] := List.length_eq_zero_iff.mp (by omega)
          rw [this]; rfl
        · rw [if_neg z0, q5, List.getElem?_append_left (by omega)]
      · have hlt : i < (ix e ++ [gN τ 1]).length := (List.getElem?_eq_some_iff.mp hj).1
        simp only [List.length_append, List.length_singleton] at hlt
        by_cases z1 : i < (ix e).length
        · rw [List.getElem?_append_left z1] at hj
          obtain ⟨w1, w2, w3⟩ := q7 i j hj
          refine ⟨by omega, ?_, ?_⟩
          · rw [c5, va_up_ne _ _ (by omega), w2]
            simp only [List.getD_eq_getElem?_getD]
            rw [List.getElem?_append_left (by omega)]
          · rw [hnx e i j he hj]
            by_cases z2 : i + 1 = (ix e).length
            · rw [if_pos ⟨rfl, z2⟩, List.getElem?_append_right (by omega), z2]; simp
            · rw [if_neg (fun z3 => z2 z3.2), List.getElem?_append_left (by omega)]
        · have z3 : i = (ix e).length := by omega
          subst z3
          rw [List.getElem?_append_right (Nat.le_refl _)] at hj
          have hj : j = gN τ 1 := by simp at hj; exact hj.symm
          subst hj
          refine ⟨by omega, ?_, ?_⟩
          · rw [c5, va_up_self, q4]; simp [List.getD_eq_getElem?_getD]
          · rw [c9, List.getElem?_eq_none (by simp)]
            by_cases z0 : gA τ 1 e = 0
            · rw [if_pos z0, va_up_self]
            · rw [if_neg z0]
              have hl : (ix e)[(ix e).length - 1]? = some ((ix e)[(ix e).length - 1]'(by omega)) := List.getElem?_eq_getElem _
              have := (q7 _ _ hl).1
              rw [q6, hl]
              simp only [Option.getD_some]
              rw [va_up_ne _ _ (by omega), va_up_self]
    · rw [va_up_ne _ _ z, va_up_ne _ _ z, va_up_ne _ _ z, if_neg z]
      refine ⟨q1, q2, q3, q4, ?_, q6, fun i j hj => ?_⟩
      · by_cases z0 : gA τ 1 d = 0
        · rw [if_pos z0, va_up_ne _ _ z, q5]
        · rw [if_neg z0, q5]
      · obtain ⟨w1, w2, w3⟩ := q7 i j hj
        refine ⟨by omega, by rw [c5, va_up_ne _ _ (by omega), w2], ?_⟩
        rw [hnx e i j he hj, if_neg (fun z3 => z z3.1)]
  · have he : e < aN A := he
    have hf : f < aN A := hf
    have key : ∀ (e i : Nat), e < aN A → (va_up ix d (ix d ++ [gN τ 1]) e)[i]? = some j → (e = d ∧ i = (ix d).length ∧ j = gN τ 1) ∨ (ix e)[i]? = some j := by
      intro e i he h5
      by_cases z : e = d
      · subst z
        rw [va_up_self] at h5
        have hlt : i < (ix e ++ [gN τ 1]).length := (List.getElem?_eq_some_iff.mp h5).1
        simp only [List.length_append, List.length_singleton] at hlt
        by_cases z1 : i < (ix e).length
        · right; rw [List.getElem?_append_left z1] at h5; exact h5
        · left
          have z3 : i = (ix e).length := by omega
          subst z3
          rw [List.getElem?_append_right (Nat.le_refl _)] at h5
          simp at h5
          exact ⟨rfl, rfl, h5.symm⟩
      · right; rw [va_up_ne _ _ z] at h5; exact h5
    rcases key e i he h5 with ⟨a1, a2, a3⟩ | a
    · rcases key f q hf h6 with ⟨b1, b2, b3⟩ | b
      · exact ⟨by rw [a1, b1], by rw [a2, b2]⟩
      · have := ((h3 f hf).2.2.2.2.2.2 q j b).1; omega
    · rcases key f q hf h6 with ⟨b1, b2, b3⟩ | b
      · have := ((h3 e he).2.2.2.2.2.2 i j a).1; omega
      · exact h4 e f i q j he hf a b
/-- what the reference's contracts say of it -/
theorem rr_add (l : Launch) (G : Gx) (a : Nat → Nat) {A : Ar} {σ : St} (k : Nat) (v : Int32) (h : RRd A σ) (h0 : aN A < 1500) : MM l G ⟨"NestedDeedsModel", "add", "(II)I"⟩ prog_14_method_4_code 3 (some .int) 0 0 [.ref (a 0), .int (nI k), .int v] (rw G a σ) (fun rv w => rv = some (.int (nI (aN A))) ∧ ∃ τ, w = rw G a τ ∧ RRd (adA A k v []) τ ∧ RST τ σ) := by
  obtain ⟨ix, hx⟩ := h
  refine (r_add l G a σ k v (by rw [hx.1]; exact h0)).mono ?_
  intro rv w ⟨hr, hw⟩
  exact ⟨by rw [hr, hx.1], _, hw, ⟨_, hx.add k v⟩, RST.add _ _ _⟩
theorem rr_addPart (l : Launch) (G : Gx) (a : Nat → Nat) {A : Ar} {σ : St} (d p : Nat) (h : RRd A σ) (hA : WA A) (hd : d < aN A) (ht : tot (aP A) (aN A) < 4000) : MM l G ⟨"NestedDeedsModel", "addPart", "(II)I"⟩ prog_14_method_5_code 3 (some .int) 0 0 [.ref (a 0), .int (nI d), .int (nI p)] (rw G a σ) (fun rv w => rv = some (.int (nI ((aP A d).length + 1))) ∧ ∃ τ, w = rw G a τ ∧ RRd (adP A d p) τ ∧ RST τ σ) := by
  obtain ⟨ix, hx⟩ := h
  obtain ⟨q1, q2, q3, q4, q5, q6, q7⟩ := hx.2.2.1 d hd
  have hl := tot_len hA hd
  refine (r_addPart l G a σ d p (by rw [hx.1]; exact hA.1) (by rw [hx.1]; exact hd) (by rw [hx.2.1]; exact ht) (by omega) (fun j hj => ?_) (fun hne => ?_)).mono ?_
  · rw [q6] at hj
    have := (q7 _ _ hj).1
    rw [hx.2.1] at this; omega
  · exact ⟨_, q6.trans (List.getElem?_eq_getElem (show (ix d).length - 1 < (ix d).length by omega))⟩
  · intro rv w ⟨hr, hw⟩
    exact ⟨by rw [hr, q3], _, hw, ⟨_, hx.addP p hd⟩, RST.addP _ _ _⟩
