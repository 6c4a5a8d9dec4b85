/-- the same events, with brackets put as the reference puts them -/
def hdC (A : Ar) (x : Nat) : List Nat := (97 + aK A x) :: numB (aV A x)
def opB (t : Nat) : List Nat := if t = 0 then [40] else [44]
def evGF (A : Ar) : Nat → Nat → Nat → List Ev
  | 0, _, _ => []
  | f + 1, x, k => .inl (x, k) :: .inr (hdC A x) :: ((aP A x).zipIdx.flatMap (fun q => .inr (opB q.2) :: evGF A f q.1 (k + 1)) ++ [.inr (clB A x)])
def evG (A : Ar) (x k : Nat) : List Ev := evGF A (x + 1) x k
def evGR (A : Ar) (x t k : Nat) : List Ev := ((aP A x).zipIdx.drop t).flatMap (fun q => .inr (opB q.2) :: evG A q.1 (k + 1)) ++ [.inr (clB A x)]
theorem evGF_st {A : Ar} (hE : ELD (aP A) id) : ∀ (f x k : Nat), x < f → evGF A f x k = evG A x k := by
  have main : ∀ (f g x k : Nat), x < f → x < g → evGF A f x k = evGF A g x k := by
    intro f
    induction f with
    | zero => intro g x k h; omega
    | succ f ih =>
      intro g x k h1 h2
      cases g with
      | zero => omega
      | succ g =>
        simp only [evGF]
        rw [flatMap_cong (fun q hq => by
          have h3 := hE x q.1 (zipIdx_mem hq)
          simp only [id] at h3
          rw [ih g q.1 (k + 1) (by omega) (by omega)])]
  exact fun f x k h => main f (x + 1) x k h (Nat.lt_succ_self _)
theorem evG_eq {A : Ar} (hE : ELD (aP A) id) (x k : Nat) : evG A x k = .inl (x, k) :: .inr (hdC A x) :: evGR A x 0 k := by
  rw [evG, evGF, evGR, List.drop_zero, flatMap_cong (fun q hq => by rw [evGF_st hE x q.1 (k + 1) (by have := hE x q.1 (zipIdx_mem hq); simpa using this)])]
theorem evGR_end {A : Ar} {x t k : Nat} (h : (aP A x).length ≤ t) : evGR A x t k = [.inr (clB A x)] := by
  rw [evGR, List.drop_eq_nil_of_le (by simpa using h)]; rfl
theorem evGR_go {A : Ar} {x t k p : Nat} (h : (aP A x)[t]? = some p) : evGR A x t k = .inr (opB t) :: (evG A p (k + 1) ++ evGR A x (t + 1) k) := by
  obtain ⟨ht, he⟩ := List.getElem?_eq_some_iff.mp h
  rw [evGR, List.drop_eq_getElem_cons (by simpa using ht), List.flatMap_cons]
  simp only [List.getElem_zipIdx, he, Nat.zero_add, evGR, List.cons_append, List.append_assoc]
def rsG (A : Ar) : List (Nat × Nat) → List Ev
  | [] => []
  | (x, t) :: c => evGR A x t (c.length + 1) ++ rsG A c
def WFs (s : Es) : Prop := s.2.1.length ≤ 6000 ∧ (s.2.2 = true → s.2.1.length = 6000)
theorem addB_wf {b : List Nat × Bool} (h : b.2 = true → b.1.length = 6000) (L : List Nat) : (addB b L).1.length ≤ 6000 ∧ ((addB b L).2 = true → (addB b L).1.length = 6000) := by
  refine ⟨by show ((b.1 ++ L).take 6000).length ≤ 6000; simp; omega, fun z => ?_⟩
  have z : (b.2 || decide (6000 < b.1.length + L.length)) = true := z
  show ((b.1 ++ L).take 6000).length = 6000
  rw [List.length_take, List.length_append]
  rcases Bool.or_eq_true_iff.mp z with z | z
  · have := h z; omega
  · have := of_decide_eq_true z; omega
theorem addB_nil {b : List Nat × Bool} (h : b.1.length ≤ 6000) : addB b [] = b := by
  refine Prod.ext ?_ ?_
  · show (b.1 ++ []).take 6000 = b.1
    rw [List.append_nil, List.take_of_length_le h]
  · show (b.2 || decide (6000 < b.1.length + 0)) = b.2
    rw [decide_eq_false (by omega), Bool.or_false]
theorem stE_r (bot : Nat) (s : Es) (L : List Nat) : stE bot s (.inr L) = if s.1.2.2 = true then s else (s.1, addB s.2 L) := rfl
theorem stE_wf {bot : Nat} {s : Es} (h : WFs s) (e : Ev) : WFs (stE bot s e) := by
  cases e with
  | inl x => simp only [stE]; split
             · exact h
             · exact h
  | inr L =>
    rw [stE_r]; split
    · exact h
    · exact addB_wf h.2 L
theorem runE_wf {bot : Nat} : ∀ (L : List Ev) {s : Es}, WFs s → WFs (runE bot L s)
  | [], _, h => h
  | e :: L, _, h => runE_wf L (stE_wf h e)
theorem stE_app (bot : Nat) (s : Es) (L M : List Nat) : stE bot (stE bot s (.inr L)) (.inr M) = stE bot s (.inr (L ++ M)) := by
  rw [stE_r bot s L, stE_r bot s (L ++ M)]
  by_cases q : s.1.2.2 = true
  · rw [if_pos q, if_pos q, stE_r, if_pos q]
  · rw [if_neg q, if_neg q, stE_r, if_neg q, addB_app]
theorem stE_nil {bot : Nat} {s : Es} (h : WFs s) : stE bot s (.inr []) = s := by
  rw [stE_r]; split
  · rfl
  · rw [addB_nil h.1]
theorem evG_run {A : Ar} (hE : ELD (aP A) id) {bot : Nat} : ∀ (f x k : Nat), x < f → ∀ s, WFs s → runE bot (evG A x k) s = runE bot (ev A x k) s := by
  intro f
  induction f with
  | zero => intro x k h; omega
  | succ f ih =>
    intro x k hx s hs
    rw [evG_eq hE, ev_eq hE, runE_cons, runE_cons, runE_cons, runE_cons]
    have hs1 := stE_wf hs (.inl (x, k)) (bot := bot)
    generalize stE bot s (.inl (x, k)) = s1 at hs1
    have key : ∀ (l : List (Nat × Nat)), (∀ q ∈ l, q.1 < f ∧ 0 < q.2) → ∀ s, WFs s → runE bot (l.flatMap (fun q => .inr (opB q.2) :: evG A q.1 (k + 1))) s = runE bot (l.flatMap (fun q => .inr (cmB q.2) :: ev A q.1 (k + 1))) s := by
      intro l
      induction l with
      | nil => intro _ s _; rfl
      | cons q l ihl =>
        intro hq s hs
        have hq0 := hq q (List.mem_cons_self ..)
        rw [List.flatMap_cons, List.flatMap_cons, List.cons_append, List.cons_append, runE_cons, runE_cons, runE_app, runE_app]
        have e : opB q.2 = cmB q.2 := by rw [opB, cmB, if_neg (by omega), if_pos hq0.2]
        rw [e]
        have hs2 := stE_wf hs (.inr (cmB q.2)) (bot := bot)
        rw [ih q.1 (k + 1) hq0.1 _ hs2]
        exact ihl (fun z hz => hq z (List.mem_cons_of_mem _ hz)) _ (runE_wf _ hs2)
    rw [evGR, evR, List.drop_zero, runE_app, runE_app]
    congr 1
    rcases hp : aP A x with _ | ⟨p0, ps⟩
    · have e : hdB A x = hdC A x := by rw [hdB, hp, hdC]; simp
      rw [e]; rfl
    · have e : hdB A x = hdC A x ++ [40] := by rw [hdB, hp, hdC]; simp
      rw [e, List.zipIdx_cons, List.flatMap_cons, List.flatMap_cons, List.cons_append, List.cons_append, runE_cons, runE_cons]
      have e1 : opB (p0, 0).2 = [40] := rfl
      have e2 : cmB (p0, 0).2 = [] := rfl
      rw [e1, e2, stE_app, stE_nil (stE_wf hs1 _), runE_app, runE_app]
      have hs3 := stE_wf hs1 (.inr (hdC A x ++ [40])) (bot := bot)
      have hp0 : p0 < f := by have := hE x p0 (by rw [hp]; exact List.mem_cons_self ..); simp only [id] at this; omega
      rw [show ev A (p0, 0).1 (k + 1) = ev A p0 (k + 1) from rfl, show evG A (p0, 0).1 (k + 1) = evG A p0 (k + 1) from rfl, ih p0 (k + 1) hp0 _ hs3]
      refine key _ (fun q hq => ?_) _ (runE_wf _ hs3)
      obtain ⟨q1, q2⟩ := q
      have hm := List.mem_zipIdx hq
      have hq1 : q1 ∈ ps := List.fst_mem_of_mem_zipIdx hq
      have := hE x q1 (by rw [hp]; exact List.mem_cons_of_mem _ hq1)
      simp only [id] at this
      exact ⟨by show q1 < f; omega, by show 0 < q2; omega⟩
theorem xS_xW {τ σ : St} (h : xS τ σ) : xW τ σ := by
  obtain ⟨h1, h2, h3, h4, h5, h6⟩ := h
  refine ⟨?_, h1 2 (by decide), h1 3 (by decide), h1 4 (by decide), h2 3 (by decide), h5⟩
  simp only [ars]
  rw [h1 0 (by decide), h1 1 (by decide), h2 0 (by decide), h2 1 (by decide), h2 2 (by decide), h4, h6]
theorem RV.xs {X : Type} {π : X → Nat} {s : List (X × Nat) × Int32 × Bool} {τ σ : St} (h : RV π s σ) (e : xS τ σ) : RV π s τ := by
  obtain ⟨e1, e2, e3, _⟩ := e
  exact ⟨(e1 8 (by decide)).trans h.1, h.2.1, (e1 9 (by decide)).trans h.2.2.1, (congrFun e3 0).trans h.2.2.2.1, fun i q hq => ⟨(congrFun (e2 6 (by decide)) i).trans (h.2.2.2.2 i q hq).1, (congrFun (e2 7 (by decide)) i).trans (h.2.2.2.2 i q hq).2⟩⟩
theorem FRs.xs {X : Type} {π : X → Nat} {ρ : X → Option Nat} {U : X → Nat → Prop} {τ σ : St} {c : List (X × Nat)} (h : FRs π ρ U c σ) (e : xS τ σ) : FRs π ρ U c τ :=
  h.up (fun j _ => ⟨congrFun (e.2.1 4 (by decide)) j, congrFun (e.2.1 5 (by decide)) j, by rw [e.2.2.2.2.2]⟩)
theorem SHT.vis {b : List Nat × Bool} {τ : St} (h : SHT b τ) (d : Nat) (o : Option Nat) : SHT b (rVU τ d o) := h
theorem SHT.beg {b : List Nat × Bool} {τ : St} (h : SHT b τ) (f : Nat → Nat) : SHT b (sA τ 5 f) := h
theorem SHT.halt {b : List Nat × Bool} {τ : St} (h : SHT b τ) (w : Int32) : SHT b (sI τ 0 w) := h
theorem SHT.dep {b : List Nat × Bool} {τ : St} (h : SHT b τ) (n : Nat) : SHT b (sN τ 7 n) := h
def uW (d : Nat) (x t : Nat) : Prop := x ≤ d ∧ t ≤ 4000
/-- a writing under way -/
def WE (A : Ar) (bot r : Nat) (F : Es) (σ : St) (c : List (Nat × Nat)) (s : Es) (τ : St) : Prop :=
  xW τ σ ∧ gN τ 7 = c.length ∧ FRs id (fun _ => none) (uW r) c τ ∧ DCh id r c ∧ RV id s.1 τ ∧ s.1.2.2 = false ∧ s.1.2.1 = 0 ∧ mxD s.1.1 ≤ bot ∧ SHT s.2 τ ∧ runE bot (rsG A c) s = F
theorem WE.pop {A : Ar} {bot r : Nat} {F : Es} {σ : St} {x t : Nat} {c : List (Nat × Nat)} {s : Es} {τ τ2 : St} (h : WE A bot r F σ ((x, t) :: c) s τ) (hl : (aP A x).length ≤ t) (hx : xS τ2 τ) (hs : SHT (addB s.2 (clB A x)) τ2) : WE A bot r F σ c (s.1, addB s.2 (clB A x)) (sN τ2 7 (gN τ2 7 - 1)) := by
  obtain ⟨h1, h2, h3, h4, h5, h6, h7, h8, h9, h10⟩ := h
  refine ⟨(xW_dep _ _).tr ((xS_xW hx).tr h1), ?_, (h3.2.2.2.2.xs hx).up (fun j hj => ⟨rfl, rfl, rfl⟩), h4.2, (h5.xs hx).dep _, h6, h7, h8, hs.dep _, ?_⟩
  · show gN τ2 7 - 1 = _
    rw [hx.1 7 (by decide), h2]; simp
  · rw [← h10, rsG, evGR_end hl, List.singleton_append, runE_cons, stE_r, if_neg (by rw [h6]; decide)]
theorem WE.step {A : Ar} {bot r : Nat} {F : Es} {σ : St} {x p t : Nat} {c : List (Nat × Nat)} {s : Es} {τ τ2 : St} (h : WE A bot r F σ ((x, t) :: c) s τ) (hW : WA A) (hr : r < aN A) (hbot : bot = if gN σ 2 = 0 then gN σ 3 else 1500) (hbl : bot ≤ 1500) (hp : (aP A x)[t]? = some p) (hx : xS τ2 (sA τ 5 (va_up (gA τ 5) (gN τ 7 - 1) (t + 1)))) (hs : SHT (addB s.2 (opB t)) τ2) :
    xW τ2 σ ∧ gN τ2 7 < 1500 ∧ gN τ2 8 ≤ 20000 ∧ gN τ2 9 ≤ 1500 ∧
    ((addB s.2 (opB t)).2 = true → RV id F.1 τ2 ∧ SHT F.2 τ2 ∧ F.1.2.1 = 0 ∧ F.2.2 = true) ∧
    ((addB s.2 (opB t)).2 = false →
      (gN τ2 8 = 20000 → RV id F.1 (sI τ2 0 (-5)) ∧ SHT F.2 (sI τ2 0 (-5)) ∧ F.1.2.1 = -5) ∧
      (¬ gN τ2 8 = 20000 → gN τ2 2 = 0 ∧ gN τ2 3 < gN τ2 7 + 1 → RV id F.1 (sI τ2 0 (-6)) ∧ SHT F.2 (sI τ2 0 (-6)) ∧ F.1.2.1 = -6) ∧
      (¬ gN τ2 8 = 20000 → ¬ (gN τ2 2 = 0 ∧ gN τ2 3 < gN τ2 7 + 1) → ∀ τ4, xS τ4 (rVU τ2 p none) → SHT (addB (addB s.2 (opB t)) (hdC A p)) τ4 →
        WE A bot r F σ ((p, 0) :: (x, t + 1) :: c) ((s.1.1 ++ [(p, c.length + 2)], 0, false), addB (addB s.2 (opB t)) (hdC A p)) τ4 ∧ (rst (aP A) id ((p, 0) :: (x, t + 1) :: c)).length + 1 = (rst (aP A) id ((x, t) :: c)).length)) := by
  obtain ⟨h1, h2, h3, h4, h5, h6, h7, h8, h9, h10⟩ := h
  have hlt : p < x := hW.lt (List.mem_of_getElem? hp)
  have hd := h4.1
  simp only [id] at hd
  simp only [List.length_cons] at h2
  have hN := hW.1
  have e7 : gN τ2 7 = c.length + 1 := (hx.1 7 (by decide)).trans h2
  have hx1 : xW τ2 σ := (xS_xW hx).tr ((xW_beg _ _).tr h1)
  have hv : RV id s.1 τ2 := (h5.beg _).xs hx
  have htl : t < (aP A x).length := (List.getElem?_eq_some_iff.mp hp).1
  have hxl := tot_len hW (show x < aN A by omega)
  have hxr : x ≤ r := h3.1.1
  have hF2 : FRs id (fun _ => none) (uW r) ((x, t + 1) :: c) τ2 := (h3.beg h2 (u := t + 1) ⟨hxr, by omega⟩).xs hx
  rw [rsG, evGR_go hp, List.cons_append, runE_cons, stE_r, if_neg (by rw [h6]; decide), List.append_assoc, evG_eq hW.eld, List.cons_append, List.cons_append, runE_cons] at h10
  have hm9 : gN τ2 9 ≤ bot := by rw [hv.2.2.1]; exact h8
  refine ⟨hx1, by omega, by rw [hv.1]; exact hv.2.1, ?_, fun ho => ?_, fun ho => ⟨fun z => ?_, fun z z2 => ?_, fun z z2 τ4 hx4 hs4 => ?_⟩⟩
  · omega
  · have e1 : stE bot (s.1, addB s.2 (opB t)) (.inl (p, c.length + 1 + 1)) = (s.1, addB s.2 (opB t)) := by simp only [stE]; rw [if_pos (Or.inr ho)]
    rw [e1, runE_full _ ho (hs.2.2.2.2 ho)] at h10
    subst h10
    exact ⟨hv, hs, h7, ho⟩
  · have e1 : stE bot (s.1, addB s.2 (opB t)) (.inl (p, c.length + 1 + 1)) = ((s.1.1, -5, true), addB s.2 (opB t)) := by
      simp only [stE]; rw [if_neg (by rw [h6, ho]; decide), stp, if_neg (by rw [h6]; decide), if_pos (by rw [← hv.1]; exact z)]
    rw [e1, runE_halt _ rfl] at h10
    subst h10
    exact ⟨hv.halt _, hs.halt _, rfl⟩
  · have hb : bot < c.length + 1 + 1 := by
      have q2 := hx1.2.1
      have q3 := hx1.2.2.1
      rw [hbot, if_pos (by omega)]; omega
    have e1 : stE bot (s.1, addB s.2 (opB t)) (.inl (p, c.length + 1 + 1)) = ((s.1.1, -6, true), addB s.2 (opB t)) := by
      simp only [stE]; rw [if_neg (by rw [h6, ho]; decide), stp, if_neg (by rw [h6]; decide), if_neg (by rw [← hv.1]; exact z), if_pos hb]
    rw [e1, runE_halt _ rfl] at h10
    subst h10
    exact ⟨hv.halt _, hs.halt _, rfl⟩
  · have hb : ¬ bot < c.length + 1 + 1 := by
      have q2 := hx1.2.1
      have q3 := hx1.2.2.1
      rw [hbot]; split
      · omega
      · omega
    have e1 : stE bot (s.1, addB s.2 (opB t)) (.inl (p, c.length + 1 + 1)) = ((s.1.1 ++ [(p, c.length + 2)], 0, false), addB s.2 (opB t)) := by
      simp only [stE]; rw [if_neg (by rw [h6, ho]; decide), stp, if_neg (by rw [h6]; decide), if_neg (by rw [← hv.1]; exact z), if_neg hb, h7]
    rw [e1, runE_cons, stE_r, if_neg (by simp)] at h10
    have hl : s.1.1.length < 20000 := by have := hv.1; have := hv.2.1; omega
    have hvv := hv.vis (n := c.length + 1) e7 hl p none false
    rw [h7] at hvv
    have e7v : gN (rVU τ2 p none) 7 = c.length + 2 := by show gN τ2 7 + 1 = _; rw [e7]
    refine ⟨⟨(xS_xW hx4).tr ((xW_vis _ _ _).tr hx1), (hx4.1 7 (by decide)).trans e7v, (hF2.vis e7 ⟨by omega, Nat.zero_le _⟩).xs hx4, ⟨by simp only [id, List.length_cons]; omega, hd, h4.2⟩, hvv.xs hx4, rfl, rfl, by simp only [mxD_snoc]; omega, hs4, ?_⟩, ?_⟩
    · rw [← h10]; rfl
    · rw [rst_go hW.eld hp]; rfl
