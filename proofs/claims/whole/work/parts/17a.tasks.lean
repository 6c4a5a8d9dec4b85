/-- frames of open nodes: the deepest has t parts done (u = 0), the others one less -/
def AC {X : Type} (P : X → Nat → Nat → Prop) : Nat → List (X × Nat) → Prop
  | _, [] => True
  | u, (x, t) :: c => P x (t - u) (c.length + 1) ∧ AC P 1 c
theorem AC.up {X : Type} {P Q : X → Nat → Nat → Prop} : ∀ {c : List (X × Nat)} {u : Nat}, AC P u c → (∀ y t j, j ≤ c.length → P y t j → Q y t j) → AC Q u c
  | [], _, _, _ => trivial
  | (x, t) :: c, u, h, e => ⟨e _ _ _ (by simp) h.1, AC.up h.2 (fun y t j hj => e y t j (by simp; omega))⟩
/-- what a task brings along, level by level -/
def TB {X : Type} (π : X → Nat) (UX : X → Prop) (nt : X → Nat) (ch : X → List X) (stop : X → Bool) (tk : Nat) (HK : St → Prop) (P T : St → X → Nat → Nat → Prop) (L : St → X → Nat → Prop) : Prop :=
  (∀ σ, HK σ → DV π UX nt σ) ∧ (∀ σ w, gN σ 12 = tk → HK σ → HK (halt σ w)) ∧ (∀ x, (ch x).length ≤ nt x) ∧
  (∀ σ x t k, gN σ 12 = tk → UX x → k < 1501 → HK σ → P σ x t k → (ch x).length ≤ t → pL σ k (π x) ∧ HK (tLeave σ k (π x)) ∧ L (tLeave σ k (π x)) x k ∧ (∀ y u j, j < k → P σ y u j → P (tLeave σ k (π x)) y u j)) ∧
  (∀ σ x t k, gN σ 12 = tk → UX x → k < 1501 → HK σ → P σ x t k → T σ x t k → t < nt x →
    pC (nxt1 σ k t) k (π x) t ∧ tChR (nxt1 σ k t) k (π x) t = ((ch x)[t]?).map π ∧ ovr (tChS (nxt1 σ k t) k (π x) t) = ovr σ ∧ HK (tChS (nxt1 σ k t) k (π x) t) ∧ (∀ y u j, j ≤ k → P σ y u j → P (tChS (nxt1 σ k t) k (π x) t) y u j) ∧
    (∀ p, (ch x)[t]? = some p → UX p → k + 1 < 1501 → pE (visPre (tChS (nxt1 σ k t) k (π x) t) (k + 1) (π p)) (k + 1) (π p) ∧
      (ovr σ = false → ovr (tEnter (visPre (tChS (nxt1 σ k t) k (π x) t) (k + 1) (π p)) (k + 1) (π p)) = stop p) ∧ HK (tEnter (visPre (tChS (nxt1 σ k t) k (π x) t) (k + 1) (π p)) (k + 1) (π p)) ∧
      (stop p = false → P (tEnter (visPre (tChS (nxt1 σ k t) k (π x) t) (k + 1) (π p)) (k + 1) (π p)) p 0 (k + 1) ∧ T (tEnter (visPre (tChS (nxt1 σ k t) k (π x) t) (k + 1) (π p)) (k + 1) (π p)) p 0 (k + 1)) ∧
      (∀ y u j, j ≤ k → P (tChS (nxt1 σ k t) k (π x) t) y u j → P (tEnter (visPre (tChS (nxt1 σ k t) k (π x) t) (k + 1) (π p)) (k + 1) (π p)) y u j))) ∧
  (∀ σ x t k p, gN σ 12 = tk → UX x → UX p → k < 1501 → t < nt x → HK σ → L σ p (k + 1) → P σ x t k → (ch x)[t]? = some p → HK (tTake σ k (π x) t) ∧ P (tTake σ k (π x) t) x (t + 1) k ∧ T (tTake σ k (π x) t) x (t + 1) k ∧ (∀ y u j, j < k → P σ y u j → P (tTake σ k (π x) t) y u j))
def eX {X : Type} (π : X → Nat) (r : Nat) (HK : St → Prop) (P T : St → X → Nat → Nat → Prop) (c : List (X × Nat)) (_ : List (X × Nat) × Int32 × Bool) (σ : St) : Prop :=
  DCh π r c ∧ HK σ ∧ AC (P σ) 0 c ∧ ∀ x t c', c = (x, t) :: c' → T σ x t (c'.length + 1)
def eL {X : Type} (π : X → Nat) (r : Nat) (HK : St → Prop) (P : St → X → Nat → Nat → Prop) (L : St → X → Nat → Prop) (x : X) (c : List (X × Nat)) (_ : List (X × Nat) × Int32 × Bool) (σ : St) : Prop :=
  DCh π r c ∧ HK σ ∧ AC (P σ) 1 c ∧ L σ x (c.length + 1)
theorem TB.tkr {X : Type} {π : X → Nat} {UX : X → Prop} {nt : X → Nat} {ch : X → List X} {stop : X → Bool} {tk r : Nat} {HK : St → Prop} {P T : St → X → Nat → Nat → Prop} {L : St → X → Nat → Prop}
    (h : TB π UX nt ch stop tk HK P T L) (hE : ELD ch π) (hr : r < 1500) : TKR π UX nt ch stop tk (eX π r HK P T) (eL π r HK P L) HK := by
  obtain ⟨b1, b2, b3, b4, b5, b6⟩ := h
  refine ⟨fun c s σ h => b1 σ h.2.1, fun x c s σ h => b1 σ h.2.1, b1, b2, ?_, ?_, ?_⟩
  · intro x t c s σ h12 hU hk ⟨e1, e2, e3, e4⟩ hn
    have hl : (ch x).length ≤ t := by have := b3 x; omega
    obtain ⟨l1, l2, l3, l4⟩ := b4 σ x t (c.length + 1) h12 hU hk e2 e3.1 hl
    exact ⟨hl, l1, e1.2, l2, e3.2.up (fun y u j hj hP => l4 y u j (by omega) hP), l3⟩
  · intro x t c s σ h12 hU hk ⟨e1, e2, e3, e4⟩ hn
    obtain ⟨c1, c2, c3, c4, c5, c6⟩ := b5 σ x t (c.length + 1) h12 hU hk e2 e3.1 (e4 x t c rfl) hn
    have r12 : gN (tChS (nxt1 σ (c.length + 1) t) (c.length + 1) (π x) t) 12 = tk := by rw [tChS_12]; exact h12
    refine ⟨c1, c2, c3, ?_, ?_⟩
    · intro hno
      have hl : (ch x).length ≤ t := List.getElem?_eq_none_iff.mp hno
      obtain ⟨l1, l2, l3, l4⟩ := b4 _ x t (c.length + 1) r12 hU hk c4 (c5 _ _ _ (Nat.le_refl _) e3.1) hl
      exact ⟨l1, e1.2, l2, e3.2.up (fun y u j hj hP => l4 y u j (by omega) (c5 _ _ _ (by omega) hP)), l3⟩
    · intro p hp hUp
      have hlt : π p < π x := hE x p (List.mem_of_getElem? hp)
      have hd := e1.1
      obtain ⟨d1, d2, d3, d4, d5⟩ := c6 p hp hUp (by omega)
      refine ⟨c4, d1, d2, fun _ => d3, fun hst => ⟨⟨by simp only [List.length_cons]; omega, e1⟩, d3, ⟨(d4 hst).1, ?_⟩, ?_⟩⟩
      · refine AC.up (c := (x, t + 1) :: c) (P := P σ) (u := 1) ⟨e3.1, e3.2⟩ (fun y u j hj hP => d5 y u j (by simpa using hj) (c5 y u j (by simpa using hj) hP))
      · intro x' t' c' he
        cases he
        exact (d4 hst).2
  · intro x t c s σ p h12 hU hUp hk hn hp ⟨e1, e2, e3, e4⟩
    obtain ⟨t1, t2, t3, t4⟩ := b6 σ x t (c.length + 1) p h12 hU hUp hk hn e2 e4 e3.1 hp
    refine ⟨e1, t1, ⟨t2, e3.2.up (fun y u j hj hP => t4 y u j (by omega) hP)⟩, ?_⟩
    intro x' t' c' he
    cases he
    exact t3
/-- what stays as it is in a walk that makes nothing -/
def kp (σ : St) : Nat × Nat × Nat × Nat × Nat × (Nat → Nat) × (Nat → Nat) × (Nat → Nat) × (Nat → Nat) × (Nat → Nat) × (Nat → Int32) := (gN σ 0, gN σ 1, gN σ 2, gN σ 7, gN σ 8, gA σ 0, gA σ 1, gA σ 2, gA σ 3, gA σ 12, gJ σ 0)
theorem RCd.ofk {A : Ar} {σ τ : St} (h : RCd A σ) (e : kp τ = kp σ) : RCd A τ := by
  simp only [kp, Prod.mk.injEq] at e
  obtain ⟨_, e1, _, _, _, e2, e3, e4, _, _, e5⟩ := e
  rw [RCd, e1, e2, e3, e4, e5]; exact h
def UA (A : Ar) (d : Nat) : Prop := d < aN A
def nA (A : Ar) (d : Nat) : Nat := (aP A d).length
theorem RCd.dv {A : Ar} {σ : St} (h : RCd A σ) (hA : WA A) : DV id (UA A) (nA A) σ := fun _ hx => ⟨h.okd hA hx, h.np hx⟩
theorem UA.up {A : Ar} (hA : WA A) {x p : Nat} (hx : UA A x) (hp : p ∈ aP A x) : UA A p := by have := hA.lt hp; simp only [UA] at *; omega
/-- the state ahead of a walk -/
def RG (A : Ar) (σ : St) : Prop := RCd A σ ∧ WA A ∧ gN σ 7 ≤ 3 ∧ 1 ≤ gN σ 8 ∧ gN σ 8 ≤ 300 ∧ ∀ k, gA σ 8 k ≤ 20000
theorem TB.go {X : Type} {π : X → Nat} {UX : X → Prop} {nt : X → Nat} {ch : X → List X} {stop : X → Bool} {tk : Nat} {HK : St → Prop} {P T : St → X → Nat → Nat → Prop} {L : St → X → Nat → Prop}
    (h : TB π UX nt ch stop tk HK P T L) (htk : isT tk) (hE : ELD ch π) (hU : ∀ x p, UX x → p ∈ ch x → UX p) {A : Ar} {σ : St} {x : X} (hG : RG A σ) (hUx : UX x) (hx : π x < 1500)
    (e1 : pE (visPre (goS σ tk) 1 (π x)) 1 (π x)) (e2 : ovr (tEnter (visPre (goS σ tk) 1 (π x)) 1 (π x)) = stop x) (e3 : HK (tEnter (visPre (goS σ tk) 1 (π x)) 1 (π x)))
    (e4 : stop x = false → P (tEnter (visPre (goS σ tk) 1 (π x)) 1 (π x)) x 0 1 ∧ T (tEnter (visPre (goS σ tk) 1 (π x)) 1 (π x)) x 0 1) :
    preG σ tk (π x) ∧ RW (runW (goB σ) stop (vis ch π x 1) ([], 0, false)) (goW σ tk (π x)) ∧ gN (goW σ tk (π x)) 12 = tk ∧ ovr (goW σ tk (π x)) = (runW (goB σ) stop (vis ch π x 1) ([], 0, false)).2.2 ∧ HK (goW σ tk (π x)) ∧
      ((runW (goB σ) stop (vis ch π x 1) ([], 0, false)).2.2 = false → ∃ y, π y = π x ∧ L (goW σ tk (π x)) y 1) := by
  obtain ⟨g1, g2, g3, g4, g5, g6⟩ := hG
  obtain ⟨r1, r2, r3, r4, r5, r6⟩ := (h.tkr hE hx).go htk hE hU g3 g4 g5 g6 hUx hx e1 e2 (fun _ => e3) (fun hs => ⟨⟨by simp, trivial⟩, e3, ⟨(e4 hs).1, trivial⟩, fun x' t' c' he => by cases he; exact (e4 hs).2⟩)
  refine ⟨r1, r2, r3, r4, ?_, ?_⟩
  · rcases hF : (runW (goB σ) stop (vis ch π x 1) ([], 0, false)).2.2 with _ | _
    · obtain ⟨y, _, y2⟩ := r6 hF
      exact y2.2.1
    · exact r5 hF
  · intro hF
    obtain ⟨y, y1, y2⟩ := r6 hF
    exact ⟨y, y1, y2.2.2.2⟩
theorem tEnter_20 {σ : St} (h : gN σ 12 = 20) (k d : Nat) : tEnter σ k d = σ := by simp [tEnter, h]
theorem tEnter_21 {σ : St} (h : gN σ 12 = 21) (k d : Nat) : tEnter σ k d = tE21 σ k d := by simp [tEnter, h]
theorem tEnter_23 {σ : St} (h : gN σ 12 = 23) (k d : Nat) : tEnter σ k d = tE23 σ k d := by simp [tEnter, h]
theorem tEnter_24 {σ : St} (h : gN σ 12 = 24) (k d : Nat) : tEnter σ k d = tE24 σ k d := by simp [tEnter, h]
theorem tEnter_26 {σ : St} (h : gN σ 12 = 26) (k d : Nat) : tEnter σ k d = tE26 σ d := by simp [tEnter, h]
theorem tEnter_27 {σ : St} (h : gN σ 12 = 27) (k d : Nat) : tEnter σ k d = tE27 σ d := by simp [tEnter, h]
theorem tEnter_28 {σ : St} (h : gN σ 12 = 28) (k d : Nat) : tEnter σ k d = tE28 σ k d := by simp [tEnter, h]
theorem tTake_21 {σ : St} (h : gN σ 12 = 21) (k d t : Nat) : tTake σ k d t = tT21 σ k d t := by simp [tTake, h]
theorem tTake_23 {σ : St} (h : gN σ 12 = 23) (k d t : Nat) : tTake σ k d t = tT23 σ k := by simp [tTake, h]
theorem tTake_28 {σ : St} (h : gN σ 12 = 28) (k d t : Nat) : tTake σ k d t = tT28 σ k := by simp [tTake, h]
theorem tTake_no {σ : St} (h1 : ¬ gN σ 12 = 21) (h2 : ¬ gN σ 12 = 23) (h3 : ¬ gN σ 12 = 28) (k d t : Nat) : tTake σ k d t = σ := by simp [tTake, h1, h2, h3]
theorem tLeave_23 {σ : St} (h : gN σ 12 = 23) (k d : Nat) : tLeave σ k d = tL23 σ k := by simp [tLeave, h]
theorem tLeave_26 {σ : St} (h : gN σ 12 = 26) (k d : Nat) : tLeave σ k d = tL26 σ d := by simp [tLeave, h]
theorem tLeave_28 {σ : St} (h : gN σ 12 = 28) (k d : Nat) : tLeave σ k d = tL28 σ k d := by simp [tLeave, h]
theorem tLeave_no {σ : St} (h1 : ¬ gN σ 12 = 23) (h2 : ¬ gN σ 12 = 26) (h3 : ¬ gN σ 12 = 28) (k d : Nat) : tLeave σ k d = σ := by simp [tLeave, h1, h2, h3]
theorem tChS_no {σ : St} (h1 : ¬ gN σ 12 = 24) (h2 : ¬ gN σ 12 = 26) (k d t : Nat) : tChS σ k d t = σ := by simp [tChS, h1, h2]
theorem tChR_no {σ : St} (h1 : ¬ gN σ 12 = 21) (h2 : ¬ gN σ 12 = 24) (h3 : ¬ gN σ 12 = 26) (h4 : ¬ gN σ 12 = 28) (k d t : Nat) : tChR σ k d t = prt σ d t := by simp [tChR, h1, h2, h3, h4]
theorem pE_of {σ : St} {k d : Nat} (h1 : ¬ gN σ 12 = 24) (h2 : ¬ gN σ 12 = 26) (h3 : ¬ gN σ 12 = 28) (hk : k < 1501) (hd : OKd σ d) : pE σ k d := ⟨hk, hd, fun e => absurd e h1, fun e => absurd e h2, fun e => absurd e h3⟩
theorem pC_of {σ : St} {k d t : Nat} (h1 : ¬ gN σ 12 = 24) (h2 : ¬ gN σ 12 = 26) (hk : k < 1501) (hd : OKd σ d) (ht : t < npt σ d) : pC σ k d t := ⟨hk, hd, ht, fun e => absurd e h1, fun e => absurd e h2⟩
theorem pL_of {σ : St} {k d : Nat} (h1 : ¬ gN σ 12 = 26) (h2 : ¬ gN σ 12 = 28) (hk : k < 1501) (hd : OKd σ d) : pL σ k d := ⟨hk, hd, fun e => absurd e h1, fun e => absurd e h2⟩
/-- size, depth, widest -/
theorem go_20 {A : Ar} {σ : St} {d : Nat} (hG : RG A σ) (hd : d < aN A) : preG σ 20 d ∧ RW (runW (goB σ) (fun _ => false) (vis (aP A) id d 1) ([], 0, false)) (goW σ 20 d) ∧ kp (goW σ 20 d) = kp σ := by
  have hA := hG.2.1
  have hR : ∀ ρ, kp ρ = kp σ → RCd A ρ := fun ρ e => hG.1.ofk e
  have hT : TB id (UA A) (nA A) (aP A) (fun _ => false) 20 (fun ρ => kp ρ = kp σ) (fun _ _ _ _ => True) (fun _ _ _ _ => True) (fun _ _ _ => True) := by
    refine ⟨fun ρ e => (hR ρ e).dv hA, fun ρ w _ e => e, fun x => Nat.le_refl _, ?_, ?_, ?_⟩
    · intro ρ x t k h12 hU hk e _ hl
      rw [tLeave_no (by omega) (by omega) (by omega)]
      exact ⟨pL_of (by omega) (by omega) hk ((hR ρ e).okd hA hU), e, trivial, fun _ _ _ _ _ => trivial⟩
    · intro ρ x t k h12 hU hk e _ _ hn
      have n12 : gN (nxt1 ρ k t) 12 = 20 := h12
      have en : kp (nxt1 ρ k t) = kp σ := e
      rw [tChS_no (by omega) (by omega), tChR_no (by omega) (by omega) (by omega) (by omega)]
      refine ⟨pC_of (by omega) (by omega) hk ((hR _ en).okd hA hU) (by rw [show npt (nxt1 ρ k t) (id x) = (aP A x).length from (hR _ en).np hU]; exact hn), by rw [show prt (nxt1 ρ k t) (id x) t = (aP A x)[t]? from (hR _ en).pr hU t]; simp, rfl, en, fun _ _ _ _ _ => trivial, ?_⟩
      intro p hp hUp hk1
      have v12 : gN (visPre (nxt1 ρ k t) (k + 1) (id p)) 12 = 20 := h12
      rw [tEnter_20 v12]
      exact ⟨pE_of (by omega) (by omega) (by omega) hk1 ((hR _ e).okd hA hUp), fun h => h, e, fun _ => ⟨trivial, trivial⟩, fun _ _ _ _ _ => trivial⟩
    · intro ρ x t k p h12 hU hUp hk hn e _ _ hp
      rw [tTake_no (by omega) (by omega) (by omega)]
      exact ⟨e, trivial, trivial, fun _ _ _ _ _ => trivial⟩
  have v12 : gN (visPre (goS σ 20) 1 (id d)) 12 = 20 := rfl
  obtain ⟨r1, r2, _, _, r5, _⟩ := hT.go (x := d) (Or.inl rfl) hA.eld (fun x p hx hp => UA.up hA hx hp) hG hd (by have := hA.1; simp only [id]; omega)
    (by exact pE_of (by omega) (by omega) (by omega) (by decide) ((hR _ rfl).okd hA hd)) (by rw [tEnter_20 v12]; rfl) (by rw [tEnter_20 v12]; rfl) (fun _ => ⟨trivial, trivial⟩)
  exact ⟨r1, r2, r5⟩
/-- find -/
def fst7 (A : Ar) (k v : Int32) (d : Nat) : Bool := decide (nI (aK A d) = k ∧ aV A d = v)
theorem go_27 {A : Ar} {σ : St} {d : Nat} (hG : RG A σ) (hd : d < aN A) : preG σ 27 d ∧ RW (runW (goB σ) (fst7 A (gI σ 4) (gI σ 5)) (vis (aP A) id d 1) ([], 0, false)) (goW σ 27 d) ∧ gB (goW σ 27 d) 27 = (runW (goB σ) (fst7 A (gI σ 4) (gI σ 5)) (vis (aP A) id d 1) ([], 0, false)).2.2 ∧ kp (goW σ 27 d) = kp σ := by
  have hA := hG.2.1
  have hR : ∀ ρ, kp ρ = kp σ ∧ gI ρ 4 = gI σ 4 ∧ gI ρ 5 = gI σ 5 → RCd A ρ := fun ρ e => hG.1.ofk e.1
  have hst : ∀ ρ x, (kp ρ = kp σ ∧ gI ρ 4 = gI σ 4 ∧ gI ρ 5 = gI σ 5) → UA A x → decide (nI (gA ρ 0 x) = gI ρ 4 ∧ gJ ρ 0 x = gI ρ 5) = fst7 A (gI σ 4) (gI σ 5) x := by
    intro ρ x e hx
    obtain ⟨q1, q2⟩ := (hR ρ e).2.1 x hx
    rw [q1, q2, e.2.1, e.2.2]; rfl
  have hT : TB id (UA A) (nA A) (aP A) (fst7 A (gI σ 4) (gI σ 5)) 27 (fun ρ => kp ρ = kp σ ∧ gI ρ 4 = gI σ 4 ∧ gI ρ 5 = gI σ 5) (fun _ _ _ _ => True) (fun _ _ _ _ => True) (fun _ _ _ => True) := by
    refine ⟨fun ρ e => (hR ρ e).dv hA, fun ρ w _ e => e, fun x => Nat.le_refl _, ?_, ?_, ?_⟩
    · intro ρ x t k h12 hU hk e _ hl
      rw [tLeave_no (by omega) (by omega) (by omega)]
      exact ⟨pL_of (by omega) (by omega) hk ((hR ρ e).okd hA hU), e, trivial, fun _ _ _ _ _ => trivial⟩
    · intro ρ x t k h12 hU hk e _ _ hn
      have n12 : gN (nxt1 ρ k t) 12 = 27 := h12
      have en : kp (nxt1 ρ k t) = kp σ ∧ gI (nxt1 ρ k t) 4 = gI σ 4 ∧ gI (nxt1 ρ k t) 5 = gI σ 5 := e
      rw [tChS_no (by omega) (by omega), tChR_no (by omega) (by omega) (by omega) (by omega)]
      refine ⟨pC_of (by omega) (by omega) hk ((hR _ en).okd hA hU) (by rw [show npt (nxt1 ρ k t) (id x) = (aP A x).length from (hR _ en).np hU]; exact hn), by rw [show prt (nxt1 ρ k t) (id x) t = (aP A x)[t]? from (hR _ en).pr hU t]; simp, rfl, en, fun _ _ _ _ _ => trivial, ?_⟩
      intro p hp hUp hk1
      have v12 : gN (visPre (nxt1 ρ k t) (k + 1) (id p)) 12 = 27 := h12
      rw [tEnter_27 v12]
      have o12 : gN (tE27 (visPre (nxt1 ρ k t) (k + 1) (id p)) (id p)) 12 = 27 := h12
      exact ⟨pE_of (by omega) (by omega) (by omega) hk1 ((hR _ e).okd hA hUp), fun _ => by rw [ovr, o12]; exact hst _ p e hUp, e, fun _ => ⟨trivial, trivial⟩, fun _ _ _ _ _ => trivial⟩
    · intro ρ x t k p h12 hU hUp hk hn e _ _ hp
      rw [tTake_no (by omega) (by omega) (by omega)]
      exact ⟨e, trivial, trivial, fun _ _ _ _ _ => trivial⟩
  have v12 : gN (visPre (goS σ 27) 1 (id d)) 12 = 27 := rfl
  have hx : id d < 1500 := by have := hA.1; simp only [id]; omega
  obtain ⟨r1, r2, r3, r4, r5, _⟩ := hT.go (x := d) (by simp [isT]) hA.eld (fun x p hx hp => UA.up hA hx hp) hG hd hx
    (by exact pE_of (by omega) (by omega) (by omega) (by decide) ((hR _ ⟨rfl, rfl, rfl⟩).okd hA hd)) (by rw [tEnter_27 v12, ovr, show gN (tE27 (visPre (goS σ 27) 1 (id d)) (id d)) 12 = 27 from rfl]; exact hst (visPre (goS σ 27) 1 (id d)) d ⟨rfl, rfl, rfl⟩ hd) (by rw [tEnter_27 v12]; exact ⟨rfl, rfl, rfl⟩) (fun _ => ⟨trivial, trivial⟩)
  have r3 : gN (goW σ 27 d) 12 = 27 := r3
  refine ⟨r1, r2, ?_, r5.1⟩
  have r4 : ovr (goW σ 27 d) = _ := r4
  rw [ovr, r3] at r4
  exact r4
