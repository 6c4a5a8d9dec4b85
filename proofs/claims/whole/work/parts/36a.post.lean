/-- the tree's nodes behind each other, children ahead of what they are children of -/
def opn (cl : Nat → List Nat) (nd : Nat → Nat × Int32) (x : Nat) : Op := ((nd x).1, (nd x).2, (cl x).length)
def pfF (cl : Nat → List Nat) (nd : Nat → Nat × Int32) : Nat → Nat → List Op
  | 0, _ => []
  | f + 1, x => (cl x).flatMap (pfF cl nd f) ++ [opn cl nd x]
def pf (n : Nat) (cl : Nat → List Nat) (nd : Nat → Nat × Int32) (x : Nat) : List Op := pfF cl nd (n - x) x
def YNG (n : Nat) (cl : Nat → List Nat) : Prop := ∀ x, x < n → ∀ j ∈ cl x, x < j ∧ j < n
theorem TR.yng {n : Nat} {cl : Nat → List Nat} {nd : Nat → Nat × Int32} {mN : Nat → Int64} {τ : St} (h : TR n cl nd mN τ) : YNG n cl := by
  intro x hx j hj
  obtain ⟨i, hi, he⟩ := List.getElem_of_mem hj
  have := h.2.2.1 x i j hx (by rw [List.getElem?_eq_getElem hi, he])
  exact ⟨this.1, this.2.1⟩
theorem pfF_st {n : Nat} {cl : Nat → List Nat} {nd : Nat → Nat × Int32} (hY : YNG n cl) : ∀ (f x : Nat), x < n → n - x ≤ f → pfF cl nd f x = pf n cl nd x := by
  have main : ∀ (f g x : Nat), x < n → n - x ≤ f → n - x ≤ g → pfF cl nd f x = pfF cl nd g x := by
    intro f
    induction f with
    | zero => intro g x hx h; omega
    | succ f ih =>
      intro g x hx h1 h2
      cases g with
      | zero => omega
      | succ g =>
        simp only [pfF]
        rw [flatMap_cong (fun j hj => by
          have := hY x hx j hj
          exact ih g j (by omega) (by omega) (by omega))]
  exact fun f x hx h => main f (n - x) x hx h (Nat.le_refl _)
theorem pf_eq {n : Nat} {cl : Nat → List Nat} {nd : Nat → Nat × Int32} (hY : YNG n cl) {x : Nat} (hx : x < n) : pf n cl nd x = (cl x).flatMap (pf n cl nd) ++ [opn cl nd x] := by
  rw [pf, show n - x = (n - x - 1) + 1 by omega, pfF, flatMap_cong (fun j hj => by
    have := hY x hx j hj
    exact pfF_st hY _ j (by omega) (by omega))]
/-- a node's way up: each with how many of its children are done -/
def PTH (n : Nat) (cl : Nat → List Nat) : List (Nat × Nat) → Nat → Prop
  | [], x => x = 0
  | (y, i) :: c, x => y < n ∧ (cl y)[i]? = some x ∧ PTH n cl c y
def dG (n : Nat) (cl : Nat → List Nat) (nd : Nat → Nat × Int32) : List (Nat × Nat) → List Op
  | [] => []
  | (y, i) :: c => dG n cl nd c ++ ((cl y).take i).flatMap (pf n cl nd)
def dS (cl : Nat → List Nat) (mk : Nat → Nat) : List (Nat × Nat) → List Nat
  | [] => []
  | (y, i) :: c => dS cl mk c ++ ((cl y).take i).map mk
def rR (n : Nat) (cl : Nat → List Nat) (nd : Nat → Nat × Int32) : List (Nat × Nat) → List Op
  | [] => []
  | (y, i) :: c => ((cl y).drop (i + 1)).flatMap (pf n cl nd) ++ [opn cl nd y] ++ rR n cl nd c
theorem cut_at {l : List Nat} {i x : Nat} (h : l[i]? = some x) : l = l.take i ++ x :: l.drop (i + 1) := by
  obtain ⟨hi, he⟩ := List.getElem?_eq_some_iff.mp h
  rw [← he, ← List.drop_eq_getElem_cons hi, List.take_append_drop]
theorem pf_path {n : Nat} {cl : Nat → List Nat} {nd : Nat → Nat × Int32} (hY : YNG n cl) : ∀ (c : List (Nat × Nat)) (x : Nat), PTH n cl c x → dG n cl nd c ++ pf n cl nd x ++ rR n cl nd c = pf n cl nd 0
  | [], x, h => by
    have h : x = 0 := h
    subst h; simp [dG, rR]
  | (y, i) :: c, x, h => by
    obtain ⟨h1, h2, h3⟩ := h
    have ih := pf_path (nd := nd) hY c y h3
    rw [← ih, pf_eq hY h1]
    have hc := cut_at h2
    rw [dG, rR]
    conv => rhs; rw [hc]
    simp [List.flatMap_append, List.flatMap_cons]
theorem PTH.lt {n : Nat} {cl : Nat → List Nat} (hY : YNG n cl) : ∀ {c : List (Nat × Nat)} {x : Nat}, PTH n cl c x → ∀ q ∈ c, q.1 < x
  | [], _, _, q, hq => by cases hq
  | (y, i) :: c, x, h, q, hq => by
    obtain ⟨h1, h2, h3⟩ := h
    have hyx := (hY y h1 x (List.mem_of_getElem? h2)).1
    rcases List.mem_cons.mp hq with rfl | hq
    · exact hyx
    · have := PTH.lt hY h3 q hq; omega
theorem dS_up {cl : Nat → List Nat} {mk mk2 : Nat → Nat} : ∀ {c : List (Nat × Nat)}, (∀ q ∈ c, ∀ j ∈ (cl q.1).take q.2, mk2 j = mk j) → dS cl mk2 c = dS cl mk c
  | [], _ => rfl
  | (y, i) :: c, h => by
    rw [dS, dS, dS_up (fun q hq => h q (List.mem_cons_of_mem _ hq))]
    congr 1
    exact List.map_congr_left (fun j hj => h (y, i) (List.mem_cons_self ..) j hj)
theorem TR.apart {n : Nat} {cl : Nat → List Nat} {nd : Nat → Nat × Int32} {mN : Nat → Int64} {τ : St} (h : TR n cl nd mN τ) {c : List (Nat × Nat)} {x : Nat} (hp : PTH n cl c x) : ∀ q ∈ c, ∀ j ∈ (cl q.1).take q.2, ¬ j = x := by
  cases c with
  | nil => intro q hq; cases hq
  | cons f c =>
    obtain ⟨y, i⟩ := f
    obtain ⟨h1, h2, h3⟩ := hp
    intro q hq j hj e
    subst e
    obtain ⟨p, hp1, hp2⟩ := List.getElem_of_mem hj
    rw [List.getElem_take] at hp2
    simp only [List.length_take] at hp1
    have hpp : (cl q.1)[p]? = some j := by rw [List.getElem?_eq_getElem (by omega), hp2]
    rcases List.mem_cons.mp hq with rfl | hq
    · have := (h.2.2.2.1 y y p i j h1 h1 hpp h2).2
      omega
    · have hlt := PTH.lt h.yng h3 q hq
      have := (h.2.2.2.1 q.1 y p i j (by omega) h1 hpp h2).1
      omega
theorem TR.rst {n : Nat} {cl : Nat → List Nat} {nd : Nat → Nat × Int32} {mN : Nat → Int64} {τ σ : St} (h : TR n cl nd mN σ) (e : RST τ σ) : TR n cl nd mN τ := by
  obtain ⟨e1, e2, e3, e4, e5, e6, e7, e8⟩ := e
  obtain ⟨h1, h2, h3, h4, h5⟩ := h
  refine ⟨(e1 11 (by decide)).trans h1, fun x hx => ?_, fun x i j hx hj => ?_, h4, fun h0 => ?_⟩
  · rw [e2 10 (by decide), e4 1 (by decide), e5, e8 4 (by decide)]; exact h2 x hx
  · rw [e8 5 (by decide), e8 6 (by decide)]; exact h3 x i j hx hj
  · rw [e8 5 (by decide), e8 6 (by decide)]; exact h5 h0
theorem TR.made {n : Nat} {cl : Nat → List Nat} {nd : Nat → Nat × Int32} {mN : Nat → Int64} {τ : St} (h : TR n cl nd mN τ) (f : Nat → Nat) : TR n cl nd mN (sA τ 11 f) := h
/-- what growing leaves as it is -/
def xG (τ σ : St) : Prop := gN τ 2 = gN σ 2 ∧ gN τ 3 = gN σ 3 ∧ gN τ 4 = gN σ 4 ∧ gN τ 5 = gN σ 5 ∧ gN τ 6 = gN σ 6 ∧ gA τ 3 = gA σ 3 ∧ gI τ 0 = gI σ 0
theorem xG.rf (σ : St) : xG σ σ := ⟨rfl, rfl, rfl, rfl, rfl, rfl, rfl⟩
theorem xG.tr {a b c : St} (h : xG a b) (g : xG b c) : xG a c := ⟨h.1.trans g.1, h.2.1.trans g.2.1, h.2.2.1.trans g.2.2.1, h.2.2.2.1.trans g.2.2.2.1, h.2.2.2.2.1.trans g.2.2.2.2.1, h.2.2.2.2.2.1.trans g.2.2.2.2.2.1, h.2.2.2.2.2.2.trans g.2.2.2.2.2.2⟩
theorem RST.xg {τ σ : St} (e : RST τ σ) : xG τ σ := ⟨e.1 2 (by decide), e.1 3 (by decide), e.1 4 (by decide), e.1 5 (by decide), e.1 6 (by decide), e.2.1 3 (by decide), congrFun e.2.2.1 0⟩
theorem xG_made (τ : St) (f : Nat → Nat) : xG (sA τ 11 f) τ := ⟨rfl, rfl, rfl, rfl, rfl, rfl, rfl⟩
/-- growing under way: these ops are done, these deeds are loose -/
def GI (A : Ar) (n : Nat) (cl : Nat → List Nat) (nd : Nat → Nat × Int32) (mN : Nat → Int64) (σ : St) (ops : List Op) (S : List Nat) (τ : St) : Prop :=
  TR n cl nd mN τ ∧ xG τ σ ∧ RRd (bns ops (A, [])).1 τ ∧ WA (bns ops (A, [])).1 ∧ (bns ops (A, [])).2 = S ∧ (∀ s ∈ S, s < aN (bns ops (A, [])).1) ∧ tot (aP (bns ops (A, [])).1) (aN (bns ops (A, [])).1) + S.length = tot (aP A) (aN A) + ops.length
theorem GI.step {A : Ar} {n : Nat} {cl : Nat → List Nat} {nd : Nat → Nat × Int32} {mN : Nat → Int64} {σ τ τ2 : St} {ops : List Op} {S0 : List Nat} {x : Nat} {mk : Nat → Nat} (h : GI A n cl nd mN σ ops (S0 ++ (cl x).map mk) τ) (hk : (nd x).1 < 12) (h1 : aN A + ops.length < 1500) (h2 : tot (aP A) (aN A) + ops.length ≤ 4000) (hT : TR n cl nd mN τ2) (hx : xG τ2 τ) (hR : RRd (adA (bns ops (A, [])).1 (nd x).1 (nd x).2 ((cl x).map mk)) τ2) : GI A n cl nd mN σ (ops ++ [opn cl nd x]) (S0 ++ [aN A + ops.length]) τ2 := by
  obtain ⟨g1, g2, g3, g4, g5, g6, g7⟩ := h
  have hN : aN (bns ops (A, [])).1 = aN A + ops.length := bns_N ops (A, [])
  have hl : (bns ops (A, [])).2.length - (cl x).length = S0.length := by rw [g5]; simp
  have hb : bns (ops ++ [opn cl nd x]) (A, []) = (adA (bns ops (A, [])).1 (nd x).1 (nd x).2 ((cl x).map mk), S0 ++ [aN A + ops.length]) := by
    rw [bns_snoc]
    refine Prod.ext ?_ ?_
    · show adA (bns ops (A, [])).1 (nd x).1 (nd x).2 ((bns ops (A, [])).2.drop ((bns ops (A, [])).2.length - (cl x).length)) = _
      rw [hl, g5, List.drop_left]
    · show (bns ops (A, [])).2.take ((bns ops (A, [])).2.length - (cl x).length) ++ [aN (bns ops (A, [])).1] = _
      rw [hl, g5, List.take_left, hN]
  rw [List.length_append, List.length_map] at g7
  refine ⟨hT, hx.tr g2, by rw [hb]; exact hR, ?_, by rw [hb], fun s hs => ?_, ?_⟩
  · rw [hb]
    exact g4.ad (by omega) (by rw [List.length_map]; omega) hk (fun p hp => g6 p (List.mem_append_right _ hp))
  · rw [hb]
    show s < aN (bns ops (A, [])).1 + 1
    rcases List.mem_append.mp hs with hs | hs
    · have := g6 s (List.mem_append_left _ hs); omega
    · rw [List.mem_singleton] at hs; omega
  · rw [hb, tot_ad, List.length_map, List.length_append, List.length_append, List.length_singleton, List.length_singleton]; omega
