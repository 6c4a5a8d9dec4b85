/-- what an object holds: archive, way and meter, paper, what is told -/
abbrev AS : Type := Ar × (Nat × Nat) × List Nat × (Int32 × Nat × Nat)
abbrev yA (S : AS) : Ar := S.1
abbrev yW (S : AS) : Nat := S.2.1.1
abbrev yM (S : AS) : Nat := S.2.1.2
abbrev yP (S : AS) : List Nat := S.2.2.1
abbrev yR (S : AS) : Int32 := S.2.2.2.1
abbrev yV (S : AS) : Nat := S.2.2.2.2.1
abbrev yC (S : AS) : Nat := S.2.2.2.2.2
def OKS (S : AS) : Prop := WA (yA S) ∧ yW S ≤ 3 ∧ 1 ≤ yM S ∧ yM S ≤ 300 ∧ (yP S).length ≤ 6000 ∧ (∀ b ∈ yP S, b < 256) ∧ yV S ≤ 20000 ∧ yC S ≤ 20000
/-- the class holds it -/
def RC (S : AS) (σ : St) : Prop := OKS S ∧ RCd (yA S) σ ∧ gN σ 0 = 0 ∧ gN σ 7 = yW S ∧ gN σ 8 = yM S ∧ gN σ 2 = (yP S).length ∧ (∀ i, i < (yP S).length → gA σ 12 i = (yP S).getD i 0) ∧ gI σ 2 = yR S ∧ gN σ 9 = yV S ∧ gN σ 11 = yC S ∧ ∀ k, gA σ 8 k ≤ 20000
theorem RC.rg {S : AS} {σ : St} (h : RC S σ) : RG (yA S) σ := by
  obtain ⟨⟨o1, o2, o3, o4, o5, o6, o7, o8⟩, h1, h2, h3, h4, h5, h6, h7, h8, h9, h10⟩ := h
  exact ⟨h1, o1, by omega, by omega, by omega, h10⟩
theorem RC.n1 {S : AS} {σ : St} (h : RC S σ) : gN σ 1 = aN (yA S) := h.2.1.1
theorem RC.le {S : AS} {σ : St} (h : RC S σ) : gN σ 1 ≤ 1500 := by rw [h.n1]; exact h.1.1.1
def PC (G : Gx) (a : Nat → Nat) (S : AS) (r : Value) (rv : Option Value) (w : va_W) : Prop := rv = some r ∧ ∃ σ, w = cw G a σ ∧ RC S σ
def botS (S : AS) : Nat := if yW S = 0 then yM S else 1500
def calS (S : AS) (mx : Nat) : Nat := if yW S = 0 ∨ yW S = 3 then min mx (yM S) else 0
def tld {X : Type} (S : AS) (F : List (X × Nat) × Int32 × Bool) : AS := (yA S, (yW S, yM S), yP S, (F.2.1, F.1.length, calS S (mxD F.1)))
def bad (S : AS) : AS := (yA S, (yW S, yM S), yP S, (-2, yV S, yC S))
def rnW {X : Type} (S : AS) (stop : X → Bool) (L : List (X × Nat)) : List (X × Nat) × Int32 × Bool := runW (botS S) stop L ([], 0, false)
theorem RC.bot {S : AS} {σ : St} (h : RC S σ) : goB σ = botS S := by simp only [goB, botS, h.2.2.2.1, h.2.2.2.2.1]
theorem RC.told {X : Type} {S : AS} {σ W : St} {F : List (X × Nat) × Int32 × Bool} (h : RC S σ) (hW : RW F W) (hk : kp W = kp σ) {n : Nat} (hn : n = calS S (mxD F.1)) (x : Nat) (y : Int32) : RC (tld S F) (ee (sN W 11 n) x y) := by
  obtain ⟨⟨o1, o2, o3, o4, o5, o6, o7, o8⟩, h1, h2, h3, h4, h5, h6, h7, h8, h9, h10⟩ := h
  have hR : RCd (yA S) W := h1.ofk hk
  simp only [kp, Prod.mk.injEq] at hk
  obtain ⟨k0, k1, k2, k3, k4, k5, k6, k7, k8, k9, k10⟩ := hk
  refine ⟨⟨o1, o2, o3, o4, o5, o6, hW.2.2.2.2.2, ?_⟩, hR, k0.trans h2, k3.trans h3, k4.trans h4, k2.trans h5, fun i hi => (congrFun k9 i).trans (h6 i hi), hW.2.2.1, hW.1, hn, hW.2.2.2.2.1⟩
  show calS S (mxD F.1) ≤ 20000
  simp only [calS]; split <;> omega
theorem RC.bad {S : AS} {σ : St} (h : RC S σ) : RC (bad S) (sI σ 2 (-2)) := by
  obtain ⟨o, h1, h2, h3, h4, h5, h6, h7, h8, h9, h10⟩ := h
  exact ⟨o, h1, h2, h3, h4, h5, h6, rfl, h8, h9, h10⟩
theorem goC_eq {X : Type} {S : AS} {σ τ W : St} {F : List (X × Nat) × Int32 × Bool} (h : RC S σ) (hk : kp τ = kp σ) (hW : RW F W) : goC τ W = calS S (mxD F.1) := by
  simp only [kp, Prod.mk.injEq] at hk
  obtain ⟨k0, k1, k2, k3, k4, k5, k6, k7, k8, k9, k10⟩ := hk
  simp only [goC, calS, k3, k4, h.2.2.2.1, h.2.2.2.2.1, hW.2.1]
/-- size, depth, widest: all is visited -/
def fAll (S : AS) (j : Nat) : List (Nat × Nat) × Int32 × Bool := rnW S (fun _ => false) (vis (aP (yA S)) id j 1)
abbrev dN (d : Int32) : Nat := d.toNatClampNeg
theorem dN_nI {j : Nat} (h : j < 1500) : dN (nI j) = j := nI_clamp (by omega)
def sp_size (S : AS) (d : Int32) : Int32 × AS := if hasD (aN (yA S)) d = true then (if (fAll S (dN d)).2.1 = 0 then nI (fAll S (dN d)).1.length else (fAll S (dN d)).2.1, tld S (fAll S (dN d))) else (-2, bad S)
def sp_depth (S : AS) (d : Int32) : Int32 × AS := if hasD (aN (yA S)) d = true then (if (fAll S (dN d)).2.1 = 0 then nI (mxD (fAll S (dN d)).1) else (fAll S (dN d)).2.1, tld S (fAll S (dN d))) else (-2, bad S)
def sp_widest (S : AS) (d x : Int32) : Int32 × AS := if hasD (aN (yA S)) d = true ∧ inR x (nI 0) (nI 1) = true then (if (fAll S (dN d)).2.1 = 0 then (if x = 0 then nI (bestF (cnD (fAll S (dN d)).1) (mxD (fAll S (dN d)).1)) else nI (cnD (fAll S (dN d)).1 (bestF (cnD (fAll S (dN d)).1) (mxD (fAll S (dN d)).1)))) else (fAll S (dN d)).2.1, tld S (fAll S (dN d))) else (-2, bad S)
def fWo (S : AS) (j : Nat) : List (Nat × Nat) × Int32 × Bool := rnW S (fun _ => false) (vis (wl (yA S)) id j 1)
def sp_worth (S : AS) (d : Int32) : Int64 × AS := if hasD (aN (yA S)) d = true then (if (fWo S (dN d)).2.1 = 0 then wo (yA S) (dN d) else lN 0, tld S (fWo S (dN d))) else (lN 0, bad S)
def sp_mark (S : AS) (d : Int32) : Int64 × AS := if hasD (aN (yA S)) d = true then (if (fAll S (dN d)).2.1 = 0 then mrk (yA S) (dN d) else lN 0, tld S (fAll S (dN d))) else (lN 0, bad S)
def fAk (S : AS) (i j : Nat) : List ((Nat × Nat) × Nat) × Int32 × Bool := rnW S (akD (yA S)) (vis (akC (yA S)) Prod.fst (i, j) 1)
def sp_alike (S : AS) (d b : Int32) : Int32 × AS := if hasD (aN (yA S)) d = true ∧ hasD (aN (yA S)) b = true then (if (fAk S (dN d) (dN b)).2.1 = 0 then (if (fAk S (dN d) (dN b)).2.2 = true then nI 0 else nI 1) else (fAk S (dN d) (dN b)).2.1, tld S (fAk S (dN d) (dN b))) else (-2, bad S)
def fFn (S : AS) (k v : Int32) (j : Nat) : List (Nat × Nat) × Int32 × Bool := rnW S (fst7 (yA S) k v) (vis (aP (yA S)) id j 1)
def sp_find (S : AS) (d k v : Int32) : Int32 × AS := if hasD (aN (yA S)) d = true ∧ hasD 12 k = true then (if (fFn S k v (dN d)).2.1 = 0 then (if (fFn S k v (dN d)).2.2 = true then nI (fFn S k v (dN d)).1.length - nI 1 else -1) else (fFn S k v (dN d)).2.1, tld S (fFn S k v (dN d))) else (-2, bad S)
def fWr (S : AS) (j : Nat) : Es := runE (botS S) (ev (yA S) j 1) (([], 0, false), ([], false))
def wrA (S : AS) (j : Nat) : AS := (yA S, (yW S, yM S), if (fWr S j).1.2.1 = 0 ∧ (fWr S j).2.2 = false then (fWr S j).2.1 else yP S, ((fWr S j).1.2.1, (fWr S j).1.1.length, calS S (mxD (fWr S j).1.1)))
def sp_write (S : AS) (d : Int32) : Int32 × AS := if hasD (aN (yA S)) d = true then (if (fWr S (dN d)).1.2.1 = 0 then (if (fWr S (dN d)).2.2 = true then -4 else nI (fWr S (dN d)).2.1.length) else (fWr S (dN d)).1.2.1, wrA S (dN d)) else (-2, bad S)
theorem cl_size (l : Launch) (G : Gx) (a : Nat → Nat) {S : AS} {σ : St} (d : Int32) (h : RC S σ) : MM l G ⟨"NestedDeeds", "size", "(I)I"⟩ prog_1_method_10_code 3 (some .int) 257 6277 [.ref (a 0), .int d] (cw G a σ) (PC G a (sp_size S d).2 (.int (sp_size S d).1)) := by
  have hle := h.1.1.1
  refine (n_size l G a σ d h.le (fun j hj _ => (go_20 h.rg (by rw [← h.n1]; exact hj)).1)).mono ?_
  intro rv w hp
  rw [h.n1] at hp
  rw [sp_size]
  by_cases hd : hasD (aN (yA S)) d = true
  · rw [if_pos hd] at hp ⊢
    obtain ⟨j, hj, rfl, x, y, hr, hw⟩ := hp
    obtain ⟨_, g2, g3⟩ := go_20 h.rg hj
    rw [h.bot] at g2
    rw [dN_nI (by omega)]
    refine ⟨?_, _, hw, h.told g2 g3 (goC_eq h rfl g2) x y⟩
    rw [hr, show gI (goF σ 20 j) 2 = (fAll S j).2.1 from g2.2.2.1, show gN (goF σ 20 j) 9 = (fAll S j).1.length from g2.1]
  · rw [if_neg hd] at hp ⊢
    exact ⟨hp.1, _, hp.2, h.bad⟩
theorem cl_depth (l : Launch) (G : Gx) (a : Nat → Nat) {S : AS} {σ : St} (d : Int32) (h : RC S σ) : MM l G ⟨"NestedDeeds", "depth", "(I)I"⟩ prog_1_method_11_code 3 (some .int) 257 6277 [.ref (a 0), .int d] (cw G a σ) (PC G a (sp_depth S d).2 (.int (sp_depth S d).1)) := by
  have hle := h.1.1.1
  refine (n_depth l G a σ d h.le (fun j hj _ => (go_20 h.rg (by rw [← h.n1]; exact hj)).1)).mono ?_
  intro rv w hp
  rw [h.n1] at hp
  rw [sp_depth]
  by_cases hd : hasD (aN (yA S)) d = true
  · rw [if_pos hd] at hp ⊢
    obtain ⟨j, hj, rfl, x, y, hr, hw⟩ := hp
    obtain ⟨_, g2, g3⟩ := go_20 h.rg hj
    rw [h.bot] at g2
    rw [dN_nI (by omega)]
    refine ⟨?_, _, hw, h.told g2 g3 (goC_eq h rfl g2) x y⟩
    rw [hr, show gI (goF σ 20 j) 2 = (fAll S j).2.1 from g2.2.2.1, show gN (goF σ 20 j) 10 = mxD (fAll S j).1 from g2.2.1]
  · rw [if_neg hd] at hp ⊢
    exact ⟨hp.1, _, hp.2, h.bad⟩
theorem cl_worth (l : Launch) (G : Gx) (a : Nat → Nat) {S : AS} {σ : St} (d : Int32) (h : RC S σ) : MM l G ⟨"NestedDeeds", "worth", "(I)J"⟩ prog_1_method_12_code 2 (some .long) 257 6277 [.ref (a 0), .int d] (cw G a σ) (PC G a (sp_worth S d).2 (.long (sp_worth S d).1)) := by
  have hle := h.1.1.1
  refine (n_worth l G a σ d h.le (fun j hj _ => (go_21 h.rg (by rw [← h.n1]; exact hj)).1)).mono ?_
  intro rv w hp
  rw [h.n1] at hp
  rw [sp_worth]
  by_cases hd : hasD (aN (yA S)) d = true
  · rw [if_pos hd] at hp ⊢
    obtain ⟨j, hj, rfl, x, y, hr, hw⟩ := hp
    obtain ⟨_, g2, g3, g4⟩ := go_21 h.rg hj
    rw [h.bot] at g2 g4
    rw [dN_nI (by omega)]
    refine ⟨?_, _, hw, h.told g2 g3 (goC_eq h rfl g2) x y⟩
    rw [hr, show gI (goF σ 21 j) 2 = (fWo S j).2.1 from g2.2.2.1]
    by_cases q : (fWo S j).2.1 = 0
    · rw [if_pos q, if_pos q, show gL (goF σ 21 j) 0 1 = wo (yA S) j from g4 q]
    · rw [if_neg q, if_neg q]
  · rw [if_neg hd] at hp ⊢
    exact ⟨hp.1, _, hp.2, h.bad⟩
theorem cl_mark (l : Launch) (G : Gx) (a : Nat → Nat) {S : AS} {σ : St} (d : Int32) (h : RC S σ) : MM l G ⟨"NestedDeeds", "mark", "(I)J"⟩ prog_1_method_13_code 2 (some .long) 257 6277 [.ref (a 0), .int d] (cw G a σ) (PC G a (sp_mark S d).2 (.long (sp_mark S d).1)) := by
  have hle := h.1.1.1
  refine (n_mark l G a σ d h.le (fun j hj _ => (go_23 h.rg (by rw [← h.n1]; exact hj)).1)).mono ?_
  intro rv w hp
  rw [h.n1] at hp
  rw [sp_mark]
  by_cases hd : hasD (aN (yA S)) d = true
  · rw [if_pos hd] at hp ⊢
    obtain ⟨j, hj, rfl, x, y, hr, hw⟩ := hp
    obtain ⟨_, g2, g3, g4⟩ := go_23 h.rg hj
    rw [h.bot] at g2 g4
    rw [dN_nI (by omega)]
    refine ⟨?_, _, hw, h.told g2 g3 (goC_eq h rfl g2) x y⟩
    rw [hr, show gI (goF σ 23 j) 2 = (fAll S j).2.1 from g2.2.2.1]
    by_cases q : (fAll S j).2.1 = 0
    · rw [if_pos q, if_pos q, show gL (goF σ 23 j) 0 1 = mrk (yA S) j from g4 q]
    · rw [if_neg q, if_neg q]
  · rw [if_neg hd] at hp ⊢
    exact ⟨hp.1, _, hp.2, h.bad⟩
theorem bestF_1 (f : Nat → Nat) : ∀ n, 1 ≤ bestF f n ∧ bestF f n ≤ max 1 n
  | 0 => by simp [bestF]
  | 1 => by simp [bestF]
  | n + 2 => by
    have := bestF_1 f (n + 1)
    simp only [bestF]; split <;> omega
theorem bestF_cong {f g : Nat → Nat} : ∀ (n : Nat), (∀ k, 1 ≤ k → k ≤ max 1 n → f k = g k) → bestF f n = bestF g n
  | 0, _ => rfl
  | 1, _ => rfl
  | n + 2, h => by
    have e := bestF_cong (n + 1) (fun k h1 h2 => h k h1 (by omega))
    have b := bestF_1 g (n + 1)
    simp only [bestF]
    rw [e, h (n + 2) (by omega) (by omega), h (bestF g (n + 1)) b.1 (by omega)]
theorem runW_pos {X : Type} {bot : Nat} (hb : 1 ≤ bot) {ch : X → List X} {μ : X → Nat} (hE : ELD ch μ) (stop : X → Bool) (x : X) : 1 ≤ mxD (runW bot stop (vis ch μ x 1) ([], 0, false)).1 := by
  rw [vis_eq hE, runW_cons, stp, if_neg (by simp), if_neg (by simp), if_neg (by show ¬ bot < 1; omega)]
  have key : ∀ (L : List (X × Nat)) (s : List (X × Nat) × Int32 × Bool), 1 ≤ mxD s.1 → 1 ≤ mxD (runW bot stop L s).1 := by
    intro L
    induction L with
    | nil => intro s h; exact h
    | cons y L ih =>
      intro s h
      rw [runW_cons]
      refine ih _ ?_
      rw [stp]; split
      · exact h
      · split
        · exact h
        · split
          · exact h
          · rw [mxD_snoc]; omega
  exact key _ _ (by simp [mxD])
theorem OKS.bot {S : AS} (h : OKS S) : 1 ≤ botS S := by simp only [botS]; split; exact h.2.2.1; omega
theorem cl_widest (l : Launch) (G : Gx) (a : Nat → Nat) {S : AS} {σ : St} (d x : Int32) (h : RC S σ) : MM l G ⟨"NestedDeeds", "widest", "(II)I"⟩ prog_1_method_17_code 5 (some .int) 257 6277 [.ref (a 0), .int d, .int x] (cw G a σ) (PC G a (sp_widest S d x).2 (.int (sp_widest S d x).1)) := by
  have hle := h.1.1.1
  have hb1500 : botS S ≤ 1500 := by have := h.1.2.2.2.1; simp only [botS]; split <;> omega
  refine (n_widest l G a σ d x h.le (fun j hj _ => (go_20 h.rg (by rw [← h.n1]; exact hj)).1) (fun j hj _ => ?_)).mono ?_
  · obtain ⟨_, g2, g3⟩ := go_20 h.rg (show j < aN (yA S) by rw [← h.n1]; exact hj)
    rw [h.bot] at g2
    have hm := runW_mx (bot := botS S) (stop := fun _ => false) (vis (aP (yA S)) id j 1) (s := ([], 0, false)) (by simp [mxD])
    refine ⟨?_, fun q _ => ?_⟩
    · rw [show gN (goF σ 20 j) 10 = mxD (runW (botS S) (fun _ => false) (vis (aP (yA S)) id j 1) ([], 0, false)).1 from g2.2.1]; omega
    · have := g2.2.2.2.2.1 q
      show gA (goW σ 20 j) 8 q < _
      omega
  intro rv w hp
  rw [h.n1] at hp
  rw [sp_widest]
  by_cases hd : hasD (aN (yA S)) d = true ∧ inR x (nI 0) (nI 1) = true
  · rw [if_pos hd] at hp ⊢
    obtain ⟨j, hj, rfl, x1, y, hr, hw⟩ := hp
    obtain ⟨_, g2, g3⟩ := go_20 h.rg hj
    rw [h.bot] at g2
    rw [dN_nI (by omega)]
    refine ⟨?_, _, hw, h.told g2 g3 (goC_eq h rfl g2) x1 y⟩
    have g2 : RW (fAll S j) (goW σ 20 j) := g2
    have hpos : 1 ≤ mxD (fAll S j).1 := runW_pos h.1.bot h.1.1.eld _ _
    have e10 : gN (goF σ 20 j) 10 = mxD (fAll S j).1 := g2.2.1
    have e8 : bestF (gA (goF σ 20 j) 8) (mxD (fAll S j).1) = bestF (cnD (fAll S j).1) (mxD (fAll S j).1) := bestF_cong _ (fun k h1 h2 => g2.2.2.2.1 k h1 (by omega))
    have hb := bestF_1 (cnD (fAll S j).1) (mxD (fAll S j).1)
    rw [hr, wdR, show gI (goF σ 20 j) 2 = (fAll S j).2.1 from g2.2.2.1, e10, e8, show gA (goF σ 20 j) 8 (bestF (cnD (fAll S j).1) (mxD (fAll S j).1)) = cnD (fAll S j).1 (bestF (cnD (fAll S j).1) (mxD (fAll S j).1)) from g2.2.2.2.1 _ hb.1 (by omega)]
  · rw [if_neg hd] at hp ⊢
    exact ⟨hp.1, _, hp.2, h.bad⟩
theorem cl_find (l : Launch) (G : Gx) (a : Nat → Nat) {S : AS} {σ : St} (d k v : Int32) (h : RC S σ) : MM l G ⟨"NestedDeeds", "find", "(III)I"⟩ prog_1_method_16_code 5 (some .int) 257 6277 [.ref (a 0), .int d, .int k, .int v] (cw G a σ) (PC G a (sp_find S d k v).2 (.int (sp_find S d k v).1)) := by
  have hle := h.1.1.1
  have h' : RC S (fnS σ k v) := h
  refine (n_find l G a σ d k v h.le (fun j hj _ => (go_27 h'.rg (by rw [← h.n1]; exact hj)).1)).mono ?_
  intro rv w hp
  rw [h.n1] at hp
  rw [sp_find]
  by_cases hd : hasD (aN (yA S)) d = true ∧ hasD 12 k = true
  · rw [if_pos hd] at hp ⊢
    obtain ⟨j, hj, rfl, x, y, hr, hw⟩ := hp
    obtain ⟨_, g2, g3, g4⟩ := go_27 h'.rg hj
    rw [h'.bot] at g2 g3
    rw [dN_nI (by omega)]
    have g2 : RW (fFn S k v j) (goW (fnS σ k v) 27 j) := g2
    have g3 : gB (goF (fnS σ k v) 27 j) 27 = (fFn S k v j).2.2 := g3
    refine ⟨?_, _, hw, h'.told g2 g4 (goC_eq h' rfl g2) x y⟩
    rw [hr, fnR, show gI (goF (fnS σ k v) 27 j) 2 = (fFn S k v j).2.1 from g2.2.2.1, show gN (goF (fnS σ k v) 27 j) 9 = (fFn S k v j).1.length from g2.1, g3]
  · rw [if_neg hd] at hp ⊢
    obtain ⟨hr, hw | hw⟩ := hp
    · exact ⟨hr, _, hw, h.bad⟩
    · exact ⟨hr, _, hw, h'.bad⟩
theorem cl_alike (l : Launch) (G : Gx) (a : Nat → Nat) {S : AS} {σ : St} (d b : Int32) (h : RC S σ) : MM l G ⟨"NestedDeeds", "alike", "(II)I"⟩ prog_1_method_14_code 4 (some .int) 257 6277 [.ref (a 0), .int d, .int b] (cw G a σ) (PC G a (sp_alike S d b).2 (.int (sp_alike S d b).1)) := by
  have hle := h.1.1.1
  have h' : ∀ i, RC S (akS σ i) := fun i => h
  refine (n_alike l G a σ d b h.le (fun i hi _ j hj _ => (go_24 (h' i).rg (by rw [← h.n1]; exact hj) (by rw [← h.n1]; exact hi)).1)).mono ?_
  intro rv w hp
  rw [h.n1] at hp
  rw [sp_alike]
  by_cases hd : hasD (aN (yA S)) d = true ∧ hasD (aN (yA S)) b = true
  · rw [if_pos hd] at hp ⊢
    obtain ⟨j, hj, rfl, i, hi, rfl, x, y, hr, hw⟩ := hp
    obtain ⟨_, g2, g3, g4⟩ := go_24 (h' i).rg hj (show gA (akS σ i) 9 1 < aN (yA S) from hi)
    rw [(h' i).bot] at g2 g3
    rw [dN_nI (by omega), dN_nI (by omega)]
    have g2 : RW (fAk S j i) (goW (akS σ i) 24 j) := g2
    have g3 : gB (goF (akS σ i) 24 j) 24 = (fAk S j i).2.2 := g3
    refine ⟨?_, _, hw, (h' i).told g2 g4 (goC_eq (h' i) rfl g2) x y⟩
    rw [hr, akR, show gI (goF (akS σ i) 24 j) 2 = (fAk S j i).2.1 from g2.2.2.1, g3]
  · rw [if_neg hd] at hp ⊢
    obtain ⟨hr, τ, hw, hτ⟩ := hp
    rcases hτ with rfl | ⟨i, rfl⟩
    · exact ⟨hr, _, hw, h.bad⟩
    · exact ⟨hr, _, hw, (h' i).bad⟩
