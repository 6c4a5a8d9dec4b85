/-- lists of what is visited below: a node, its depth -/
def visF {X : Type} (ch : X → List X) : Nat → X → Nat → List (X × Nat)
  | 0, _, _ => []
  | f + 1, x, k => (x, k) :: (ch x).flatMap (fun p => visF ch f p (k + 1))
def vis {X : Type} (ch : X → List X) (μ : X → Nat) (x : X) (k : Nat) : List (X × Nat) := visF ch (μ x + 1) x k
def ELD {X : Type} (ch : X → List X) (μ : X → Nat) : Prop := ∀ x, ∀ p ∈ ch x, μ p < μ x
theorem flatMap_cong {α β : Type} {f g : α → List β} : ∀ {l : List α}, (∀ x ∈ l, f x = g x) → l.flatMap f = l.flatMap g
  | [], _ => rfl
  | x :: l, h => by
    rw [List.flatMap_cons, List.flatMap_cons, h x (List.mem_cons_self ..), flatMap_cong (fun y hy => h y (List.mem_cons_of_mem _ hy))]
theorem visF_st {X : Type} {ch : X → List X} {μ : X → Nat} (h : ELD ch μ) : ∀ (f : Nat) (x : X) (k : Nat), μ x < f → visF ch f x k = vis ch μ x k := by
  have main : ∀ (f g : Nat) (x : X) (k : Nat), μ x < f → μ x < g → visF ch f x k = visF ch g x k := by
    intro f
    induction f with
    | zero => intro g x k h1; omega
    | succ f ih =>
      intro g x k h1 h2
      cases g with
      | zero => omega
      | succ g =>
        simp only [visF]
        congr 1
        exact flatMap_cong (fun p hp => ih g p (k + 1) (by have := h x p hp; omega) (by have := h x p hp; omega))
  intro f x k hf
  exact main f (μ x + 1) x k hf (Nat.lt_succ_self _)
theorem vis_eq {X : Type} {ch : X → List X} {μ : X → Nat} (h : ELD ch μ) (x : X) (k : Nat) : vis ch μ x k = (x, k) :: (ch x).flatMap (fun p => vis ch μ p (k + 1)) := by
  rw [vis, visF]
  congr 1
  exact flatMap_cong (fun p hp => visF_st h _ p (k + 1) (h x p hp))
/-- what is still to be visited: open nodes, the deepest first, each with its turn -/
def rst {X : Type} (ch : X → List X) (μ : X → Nat) : List (X × Nat) → List (X × Nat)
  | [] => []
  | (x, t) :: c => ((ch x).drop t).flatMap (fun p => vis ch μ p (c.length + 2)) ++ rst ch μ c
theorem rst_end {X : Type} {ch : X → List X} {μ : X → Nat} {x : X} {t : Nat} {c : List (X × Nat)} (h : (ch x).length ≤ t) : rst ch μ ((x, t) :: c) = rst ch μ c := by
  rw [rst, List.drop_eq_nil_of_le h]; rfl
theorem rst_go {X : Type} {ch : X → List X} {μ : X → Nat} (hE : ELD ch μ) {x p : X} {t : Nat} {c : List (X × Nat)} (h : (ch x)[t]? = some p) : rst ch μ ((x, t) :: c) = (p, c.length + 2) :: rst ch μ ((p, 0) :: (x, t + 1) :: c) := by
  obtain ⟨ht, he⟩ := List.getElem?_eq_some_iff.mp h
  rw [rst, List.drop_eq_getElem_cons ht, he, List.flatMap_cons, vis_eq hE]
  simp only [rst, List.drop_zero, List.length_cons, List.cons_append, List.append_assoc]
theorem vis_rst {X : Type} {ch : X → List X} {μ : X → Nat} (hE : ELD ch μ) (x : X) : vis ch μ x 1 = (x, 1) :: rst ch μ [(x, 0)] := by
  rw [vis_eq hE]; simp [rst]
/-- one more visit of a walk: what was visited, its answer, whether it is over -/
def stp {X : Type} (bot : Nat) (stop : X → Bool) (s : List (X × Nat) × Int32 × Bool) (x : X × Nat) : List (X × Nat) × Int32 × Bool :=
  if s.2.2 = true then s else if s.1.length = 20000 then (s.1, -5, true) else if bot < x.2 then (s.1, -6, true) else (s.1 ++ [x], s.2.1, stop x.1)
def runW {X : Type} (bot : Nat) (stop : X → Bool) (L : List (X × Nat)) (s : List (X × Nat) × Int32 × Bool) : List (X × Nat) × Int32 × Bool := L.foldl (stp bot stop) s
theorem stp_over {X : Type} {bot : Nat} {stop : X → Bool} {s : List (X × Nat) × Int32 × Bool} (h : s.2.2 = true) (x : X × Nat) : stp bot stop s x = s := by rw [stp, if_pos h]
theorem runW_over {X : Type} {bot : Nat} {stop : X → Bool} : ∀ (L : List (X × Nat)) {s : List (X × Nat) × Int32 × Bool}, s.2.2 = true → runW bot stop L s = s
  | [], _, _ => rfl
  | x :: L, s, h => by
    show runW bot stop L (stp bot stop s x) = s
    rw [stp_over h]; exact runW_over L h
theorem runW_cons {X : Type} (bot : Nat) (stop : X → Bool) (x : X × Nat) (L : List (X × Nat)) (s : List (X × Nat) × Int32 × Bool) : runW bot stop (x :: L) s = runW bot stop L (stp bot stop s x) := rfl
def mxD {X : Type} (vs : List (X × Nat)) : Nat := vs.foldl (fun m x => max m x.2) 0
theorem mxD_snoc {X : Type} (vs : List (X × Nat)) (x : X × Nat) : mxD (vs ++ [x]) = max (mxD vs) x.2 := by simp [mxD, List.foldl_append]
def cnD {X : Type} (vs : List (X × Nat)) (k : Nat) : Nat := vs.countP (fun x => decide (x.2 = k))
theorem cnD_snoc {X : Type} (vs : List (X × Nat)) (x : X × Nat) (k : Nat) : cnD (vs ++ [x]) k = cnD vs k + if x.2 = k then 1 else 0 := by
  simp only [cnD, List.countP_append, List.countP_cons, List.countP_nil]
  by_cases h : x.2 = k <;> simp [h]
theorem mxD_le {X : Type} : ∀ (vs : List (X × Nat)) (x : X × Nat), x ∈ vs → x.2 ≤ mxD vs := by
  have h : ∀ (vs : List (X × Nat)) (m : Nat), m ≤ vs.foldl (fun m x => max m x.2) m ∧ ∀ x ∈ vs, x.2 ≤ vs.foldl (fun m x => max m x.2) m := by
    intro vs
    induction vs with
    | nil => intro m; exact ⟨Nat.le_refl _, fun x hx => by cases hx⟩
    | cons y vs ih =>
      intro m
      obtain ⟨a, b⟩ := ih (max m y.2)
      refine ⟨Nat.le_trans (Nat.le_max_left ..) a, fun x hx => ?_⟩
      rcases List.mem_cons.mp hx with rfl | hx
      · exact Nat.le_trans (Nat.le_max_right ..) a
      · exact b x hx
  exact fun vs x hx => (h vs 0).2 x hx
/-- depths of open nodes -/
def DCh {X : Type} (μ : X → Nat) (r : Nat) : List (X × Nat) → Prop
  | [] => True
  | (x, _) :: c => μ x + c.length ≤ r ∧ DCh μ r c
/-- an archive: how many deeds, their kinds, numbers, parts -/
abbrev Ar : Type := Nat × (Nat → Nat) × (Nat → Int32) × (Nat → List Nat)
def aN (A : Ar) : Nat := A.1
def aK (A : Ar) : Nat → Nat := A.2.1
def aV (A : Ar) : Nat → Int32 := A.2.2.1
def aP (A : Ar) : Nat → List Nat := A.2.2.2
def tot (ps : Nat → List Nat) : Nat → Nat
  | 0 => 0
  | n + 1 => tot ps n + (ps n).length
theorem tot_mono {ps : Nat → List Nat} : ∀ {m n : Nat}, m ≤ n → tot ps m ≤ tot ps n := by
  intro m n h
  induction n with
  | zero => rw [Nat.le_zero.mp h]; exact Nat.le_refl _
  | succ n ih =>
    rcases Nat.lt_or_eq_of_le h with h | h
    · have := ih (by omega); simp only [tot]; omega
    · rw [h]; exact Nat.le_refl _
theorem tot_cong {ps qs : Nat → List Nat} : ∀ {n : Nat}, (∀ d, d < n → ps d = qs d) → tot ps n = tot qs n
  | 0, _ => rfl
  | n + 1, h => by simp only [tot]; rw [tot_cong (fun d hd => h d (by omega)), h n (by omega)]
def WA (A : Ar) : Prop := aN A ≤ 1500 ∧ tot (aP A) (aN A) ≤ 4000 ∧ (∀ d, d < aN A → aK A d < 12) ∧ ELD (aP A) id
theorem WA.eld {A : Ar} (h : WA A) : ELD (aP A) id := h.2.2.2
theorem WA.lt {A : Ar} (h : WA A) {d p : Nat} (hp : p ∈ aP A d) : p < d := h.2.2.2 d p hp
/-- the class' rows hold the archive -/
def RCd (A : Ar) (σ : St) : Prop := gN σ 1 = aN A ∧ (∀ d, d < aN A → gA σ 0 d = aK A d ∧ gJ σ 0 d = aV A d) ∧ (∀ d, d ≤ aN A → gA σ 1 d = tot (aP A) d) ∧ ∀ d, d < aN A → ∀ i, i < (aP A d).length → gA σ 2 (tot (aP A) d + i) = (aP A d).getD i 0
theorem RCd.np {A : Ar} {σ : St} (h : RCd A σ) {d : Nat} (hd : d < aN A) : npt σ d = (aP A d).length := by
  simp only [npt, h.2.2.1 d (by omega), h.2.2.1 (d + 1) (by omega), tot]; omega
theorem RCd.pr {A : Ar} {σ : St} (h : RCd A σ) {d : Nat} (hd : d < aN A) (i : Nat) : prt σ d i = (aP A d)[i]? := by
  have e : gA σ 1 (d + 1) - gA σ 1 d = (aP A d).length := h.np hd
  simp only [prt, e]
  by_cases hi : i < (aP A d).length
  · rw [if_pos hi, h.2.2.1 d (by omega), h.2.2.2 d hd i hi, List.getD_eq_getElem?_getD, List.getElem?_eq_getElem hi]; rfl
  · rw [if_neg hi, List.getElem?_eq_none (by omega)]
theorem RCd.okd {A : Ar} {σ : St} (h : RCd A σ) (hA : WA A) {d : Nat} (hd : d < aN A) : OKd σ d := by
  have h1 := h.2.2.1 d (by omega)
  have h2 := h.2.2.1 (d + 1) (by omega)
  have h3 := tot_mono (ps := aP A) (show d + 1 ≤ aN A by omega)
  have h4 := tot_mono (ps := aP A) (show d ≤ d + 1 by omega)
  have h5 := hA.2.1
  have h6 := hA.1
  exact ⟨by omega, by omega, by omega, by rw [(h.2.1 d hd).1]; exact hA.2.2.1 d hd⟩
theorem RCd.dok {A : Ar} {σ : St} (h : RCd A σ) (hA : WA A) : DOK σ := by
  refine ⟨by rw [h.1]; exact hA.1, by rw [h.1, h.2.2.1 _ (Nat.le_refl _)]; exact hA.2.1, fun d hd => ?_⟩
  rw [h.1] at hd
  refine ⟨h.okd hA hd, ?_⟩
  rw [h.1, h.2.2.1 _ (Nat.le_refl _), h.2.2.1 (d + 1) (by omega)]
  exact tot_mono (by omega)
