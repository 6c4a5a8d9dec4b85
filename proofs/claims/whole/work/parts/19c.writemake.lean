theorem digsC_lt : ∀ (c m b : Nat), m < 10 ^ c → b ∈ digsC c m → b < 256
  | 0, _, _, _, h => by cases h
  | c + 1, m, b, hm, h => by
    simp only [digsC] at h
    have hp : 0 < 10 ^ c := Nat.pow_pos (by decide)
    rcases List.mem_cons.mp h with e | h
    · have : m / 10 ^ c < 10 := by rw [Nat.div_lt_iff_lt_mul hp]; rw [Nat.pow_succ] at hm; omega
      omega
    · exact digsC_lt c _ b (Nat.mod_lt _ hp) h
theorem numB_lt (v : Int32) {b : Nat} (h : b ∈ numB v) : b < 256 := by
  rcases List.mem_append.mp h with h | h
  · split at h
    · rw [List.mem_singleton] at h; omega
    · cases h
  · exact digsC_lt _ _ b (ndg_lt (by have := absN_le v; omega)) h
theorem hdB_lt {A : Ar} (hA : WA A) {x b : Nat} (hx : x < aN A) (h : b ∈ hdB A x) : b < 256 := by
  have hk := hA.2.2.1 x hx
  simp only [hdB, List.cons_append] at h
  rcases List.mem_cons.mp h with e | h
  · omega
  · rcases List.mem_append.mp h with h | h
    · exact numB_lt _ h
    · split at h
      · rw [List.mem_singleton] at h; omega
      · cases h
def EvB (L : List Ev) : Prop := ∀ e ∈ L, ∀ M, e = .inr M → ∀ b ∈ M, b < 256
theorem ev_lt {A : Ar} (hA : WA A) : ∀ (f x k : Nat), x < f → x < aN A → EvB (ev A x k) := by
  intro f
  induction f with
  | zero => intro x k h; omega
  | succ f ih =>
    intro x k hf hx e he M hM b hb
    subst hM
    rw [ev_eq hA.eld, evR] at he
    simp only [List.drop_zero, List.mem_cons, List.mem_append, List.mem_flatMap, List.mem_singleton, reduceCtorEq, false_or] at he
    rcases he with he | ⟨q, hq, he⟩ | he
    · cases he; exact hdB_lt hA hx hb
    · have hlt := hA.lt (zipIdx_mem hq)
      rcases he with he | he
      · cases he
        simp only [cmB] at hb
        split at hb
        · rw [List.mem_singleton] at hb; omega
        · cases hb
      · exact ih q.1 (k + 1) (by omega) (by omega) _ he M rfl b hb
    · have he : M = clB A x := he.elim Sum.inr.inj (fun z => by cases z)
      rw [he, clB] at hb
      split at hb
      · rw [List.mem_singleton] at hb; omega
      · cases hb
theorem runE_lt {bot : Nat} : ∀ (L : List Ev) {s : Es}, EvB L → (∀ b ∈ s.2.1, b < 256) → ∀ b ∈ (runE bot L s).2.1, b < 256
  | [], _, _, h => h
  | e :: L, s, hL, h => by
    rw [runE_cons]
    refine runE_lt L (fun e' he' => hL e' (List.mem_cons_of_mem _ he')) ?_
    cases e with
    | inl x =>
      simp only [stE]; split
      · exact h
      · exact h
    | inr M =>
      simp only [stE]; split
      · exact h
      · intro b hb
        have hb : b ∈ (s.2.1 ++ M).take 6000 := hb
        rcases List.mem_append.mp (List.mem_of_mem_take hb) with hb | hb
        · exact h b hb
        · exact hL (.inr M) (List.mem_cons_self ..) M rfl b hb
theorem cl_write (l : Launch) (G : Gx) (a : Nat → Nat) {S : AS} {σ : St} (d : Int32) (h : RC S σ) : MM l G ⟨"NestedDeeds", "write", "(I)I"⟩ prog_1_method_15_code 3 (some .int) 257 6277 [.ref (a 0), .int d] (cw G a σ) (PC G a (sp_write S d).2 (.int (sp_write S d).1)) := by
  have hle := h.1.1.1
  have h' : RC S (wrS σ) := h
  have hgo : ∀ j, j < aN (yA S) → _ := fun j hj => go_26 h'.rg hj (show gN (wrS σ) 3 = 0 from rfl) (show gB (wrS σ) 1 = false from rfl)
  refine (n_write l G a σ d h.le (fun j hj _ => (hgo j (by rw [← h.n1]; exact hj)).1) (fun j hj _ => ?_)).mono ?_
  · obtain ⟨_, _, g3, _⟩ := hgo j (by rw [← h.n1]; exact hj)
    show gN (goW (wrS σ) 26 j) 3 ≤ 6000
    rw [g3.1]; exact g3.2.1
  intro rv w hp
  rw [h.n1] at hp
  rw [sp_write]
  by_cases hd : hasD (aN (yA S)) d = true
  · rw [if_pos hd] at hp ⊢
    obtain ⟨j, hj, rfl, x, y, hr, hw⟩ := hp
    obtain ⟨_, g2, g3, g4⟩ := hgo j hj
    rw [h'.bot] at g2 g3
    rw [dN_nI (by omega)]
    have g2 : RW (fWr S j).1 (goW (wrS σ) 26 j) := g2
    have g3 : DRF (fWr S j).2 (goW (wrS σ) 26 j) := g3
    have e2 : gI (goF (wrS σ) 26 j) 2 = (fWr S j).1.2.1 := g2.2.2.1
    have e1 : gB (goF (wrS σ) 26 j) 1 = (fWr S j).2.2 := g3.2.2.2.1
    have e3 : gN (goF (wrS σ) 26 j) 3 = (fWr S j).2.1.length := g3.1
    have ht := h'.told g2 g4 (goC_eq h' rfl g2) x y
    refine ⟨by rw [hr, wrR, e2, e1, e3], _, hw, ?_⟩
    show RC (wrA S j) (ee (wrF (goF (wrS σ) 26 j)) x y)
    rw [wrF, e2, e1]
    by_cases q1 : (fWr S j).1.2.1 = 0
    · rw [if_pos q1]
      cases q2 : (fWr S j).2.2
      · rw [if_neg (by decide)]
        have hpp : yP (wrA S j) = (fWr S j).2.1 := by simp [wrA, q1, q2]
        obtain ⟨⟨o1, o2, o3, o4, o5, o6, o7⟩, t1, t2, t3, t4, t5, t6, t7⟩ := ht
        refine ⟨⟨o1, o2, o3, o4, by rw [hpp]; exact g3.2.1, by rw [hpp]; exact runE_lt _ (ev_lt h.1.1 (j + 1) j 1 (by omega) hj) (fun b hb => by cases hb), o7⟩, t1, t2, t3, t4, ?_, ?_, t7⟩
        · rw [hpp]; exact e3
        · intro i hi
          rw [hpp] at hi ⊢
          show (if 0 ≤ i ∧ i < 0 + gN (goF (wrS σ) 26 j) 3 then gA (goF (wrS σ) 26 j) 13 (0 + (i - 0)) else gA (goF (wrS σ) 26 j) 12 i) = _
          rw [e3, if_pos (by omega), show 0 + (i - 0) = i by omega]
          exact g3.2.2.1 i hi
      · rw [if_pos rfl]
        have hpp : wrA S j = tld S (fWr S j).1 := by simp [wrA, tld, q2]
        rw [hpp]; exact ht
    · rw [if_neg q1]
      have hpp : wrA S j = tld S (fWr S j).1 := by simp [wrA, tld, q1]
      rw [hpp]; exact ht
  · rw [if_neg hd] at hp ⊢
    exact ⟨hp.1, _, hp.2, h'.bad⟩
theorem foldl_rng {β : Type} (g : β → Nat → β) : ∀ (l : List Nat) (x : β), (List.range l.length).foldl (fun h i => g h (l.getD i 0)) x = l.foldl g x := by
  intro l
  have key : ∀ n, n ≤ l.length → ∀ x, (List.range n).foldl (fun h i => g h (l.getD i 0)) x = (l.take n).foldl g x := by
    intro n
    induction n with
    | zero => intro _ x; rfl
    | succ n ih =>
      intro hn x
      rw [List.range_succ, List.foldl_append, ih (by omega), List.take_succ, List.foldl_append, List.getElem?_eq_getElem (show n < l.length by omega)]
      simp [List.getD_eq_getElem?_getD, List.getElem?_eq_getElem (show n < l.length by omega)]
  intro x
  rw [key l.length (Nat.le_refl _), List.take_length]
theorem foldl_cng {β : Type} {f g : β → Nat → β} : ∀ {l : List Nat} {x : β}, (∀ b i, i ∈ l → f b i = g b i) → l.foldl f x = l.foldl g x := fun h => foldl_cong h
theorem mkOK_mrk {A : Ar} {σ : St} {m : Nat → Int64} {n : Nat} (hA : WA A) (h : RCd A σ) (hm : mkOK σ m n) (hn : n ≤ aN A) : ∀ f d, d < f → d < n → m d = mrk A d := by
  intro f
  induction f with
  | zero => intro d hd; omega
  | succ f ih =>
    intro d hd hdn
    have hdA : d < aN A := by omega
    rw [hm d hdn, mkOf, mrk_eq hA.eld, h.np hdA, (h.2.1 d hdA).1, (h.2.1 d hdA).2]
    congr 1
    rw [foldl_cong (g := fun b i => withL b (m ((aP A d).getD i 0))) (fun b i hi => by
      rw [h.2.2.1 d (by omega), h.2.2.2 d hdA i (List.mem_range.mp hi)]), foldl_rng (fun b p => withL b (m p))]
    exact foldl_cong (fun b p hp => by have := hA.lt hp; rw [ih p (by omega) (by omega)])
def rmA (S : AS) (m : Int32) (o : Bool) (j : Nat) : Ar := (bns (bl (yA S, m, o) j) (yA S, [])).1
def rmN (S : AS) (m : Int32) (j : Nat) : Nat := (bl (yA S, m, false) j).length
def rmOK (S : AS) (m : Int32) (j : Nat) : Prop := aN (yA S) + rmN S m j ≤ 1500 ∧ tot (aP (yA S)) (aN (yA S)) + (rmN S m j - 1) ≤ 4000
def sp_remake (S : AS) (d m : Int32) (o : Bool) : Int32 × AS := if hasD (aN (yA S)) d = true then (if (fAll S (dN d)).2.1 = 0 then (if aN (yA S) + rmN S m (dN d) ≤ 1500 ∧ tot (aP (yA S)) (aN (yA S)) + (rmN S m (dN d) - 1) ≤ 4000 then (nI (aN (yA S) + rmN S m (dN d) - 1), stA (tld S (fAll S (dN d))) (rmA S m o (dN d))) else (-4, tld S (fAll S (dN d)))) else ((fAll S (dN d)).2.1, tld S (fAll S (dN d)))) else (-2, bad S)
theorem RC.told2 {X : Type} {S : AS} {σ W : St} {F : List (X × Nat) × Int32 × Bool} {A : Ar} (h : RC S σ) (hW : RW F W) (hA : WA A) (hR : RCd A W) (h0 : gN W 0 = 0) (hq : kq W = kq σ) {n : Nat} (hn : n = calS S (mxD F.1)) (x : Nat) (y : Int32) : RC (stA (tld S F) A) (ee (sN W 11 n) x y) := by
  obtain ⟨⟨o1, o2, o3, o4, o5, o6, o7, o8⟩, h1, h2, h3, h4, h5, h6, h7, h8, h9, h10⟩ := h
  simp only [kq, Prod.mk.injEq] at hq
  obtain ⟨k2, k3, k4, k9⟩ := hq
  refine ⟨⟨hA, o2, o3, o4, o5, o6, hW.2.2.2.2.2, ?_⟩, hR, h0, k3.trans h3, k4.trans h4, k2.trans h5, fun i hi => (congrFun k9 i).trans (h6 i hi), hW.2.2.1, hW.1, hn, hW.2.2.2.2.1⟩
  show calS S (mxD F.1) ≤ 20000
  simp only [calS]; split <;> omega
theorem goC_eq2 {X : Type} {S : AS} {σ τ W : St} {F : List (X × Nat) × Int32 × Bool} (h : RC S σ) (hk : kq τ = kq σ) (hW : RW F W) : goC τ W = calS S (mxD F.1) := by
  simp only [kq, Prod.mk.injEq] at hk
  obtain ⟨k2, k3, k4, k9⟩ := hk
  simp only [goC, calS, k3, k4, h.2.2.2.1, h.2.2.2.2.1, hW.2.1]
theorem goB_eq2 {S : AS} {σ τ : St} (h : RC S σ) (hk : kq τ = kq σ) : goB τ = botS S := by
  simp only [kq, Prod.mk.injEq] at hk
  obtain ⟨k2, k3, k4, k9⟩ := hk
  simp only [goB, botS, k3, k4, h.2.2.2.1, h.2.2.2.2.1]
theorem stA_tld {X : Type} (S : AS) (F : List (X × Nat) × Int32 × Bool) : stA (tld S F) (yA S) = tld S F := rfl
theorem cho_f (A : Ar) (m : Int32) : cho (A, m, false) = aP A := by funext x; simp [cho]
theorem last_bl {M : Mx} (hA : WA M.1) {j : Nat} (h : (bns (bl M j) (M.1, [])).2.length = 1) : (bns (bl M j) (M.1, [])).2 = [aN M.1 + (bl M j).length - 1] := by
  rw [bl_eq hA.eld] at h ⊢
  rw [bns_snoc] at h ⊢
  have e : (bnd (bns ((kcx M j).flatMap (bl M)) (M.1, [])) (opx M j)).2 = (bns ((kcx M j).flatMap (bl M)) (M.1, [])).2.take ((bns ((kcx M j).flatMap (bl M)) (M.1, [])).2.length - (opx M j).2.2) ++ [aN (bns ((kcx M j).flatMap (bl M)) (M.1, [])).1] := rfl
  rw [e] at h ⊢
  rw [List.length_append, List.length_singleton] at h
  have h0 : ((bns ((kcx M j).flatMap (bl M)) (M.1, [])).2.take ((bns ((kcx M j).flatMap (bl M)) (M.1, [])).2.length - (opx M j).2.2)).length = 0 := by omega
  rw [List.length_eq_zero_iff.mp h0, bns_N, List.length_append]
  simp
/-- the two walks of a remaking -/
theorem rm_1 {S : AS} {σ : St} (h : RC S σ) (m : Int32) {j : Nat} (hj : j < aN (yA S)) : preG (bcS σ m) 28 j ∧ RW (fAll S j) (goW (bcS σ m) 28 j) ∧ RCd (yA S) (goW (bcS σ m) 28 j) ∧ gN (goW (bcS σ m) 28 j) 0 = 0 ∧ kq (goW (bcS σ m) 28 j) = kq σ ∧ gI (goW (bcS σ m) 28 j) 6 = m ∧ ((fAll S j).2.1 = 0 → gN (goW (bcS σ m) 28 j) 15 = rmN S m j) := by
  obtain ⟨g1, hA, g3, g4, g5, g6⟩ := h.rg
  have hC : CI (yA S, m, false) false (bcS σ m) j (yA S, []) (bcS σ m) := ⟨rfl, rfl, rfl, g1, hA, ⟨h.2.2.1, fun i hi => by simp at hi⟩, fun s hs => by simp at hs, EXT.rfl' _, rfl, fun ho => by cases ho⟩
  obtain ⟨r1, r2, r3, r4⟩ := go_28 (M := (yA S, m, false)) hA hj hC g3 g4 g5 g6 (fun h => by cases h)
  rw [cho_f, show goB (bcS σ m) = botS S from goB_eq2 h rfl] at r2 r3 r4
  have r2 : RW (fAll S j) (goW (bcS σ m) 28 j) := r2
  have hc : CI (yA S, m, false) false (bcS σ m) j (yA S, []) (goW (bcS σ m) 28 j) := by
    by_cases q : (fAll S j).2.1 = 0
    · exact (r4 q).1
    · obtain ⟨ops, ho⟩ := r3 q
      exact ho
  obtain ⟨c1, c2, c3, c4, c5, c6, c7, c8, c9, c10⟩ := hc
  exact ⟨r1, r2, c4, c6.1, c9, c3, fun q => by rw [(r4 q).2.1]; show 0 + _ = _; rw [Nat.zero_add]; rfl⟩
theorem mkS_12 (ρ : St) (o : Bool) (mk : Nat → Int64) : kq (mkS ρ o mk) = kq ρ ∧ kp (mkS ρ o mk) = kp ρ ∧ gA (mkS ρ o mk) 8 = gA ρ 8 ∧ gB (mkS ρ o mk) 3 = true ∧ gB (mkS ρ o mk) 4 = o ∧ gI (mkS ρ o mk) 6 = gI ρ 6 := by
  cases o
  · exact ⟨rfl, rfl, rfl, rfl, rfl, rfl⟩
  · exact ⟨rfl, rfl, rfl, rfl, rfl, rfl⟩
theorem rm_2 {S : AS} {σ ρ : St} (h : RC S σ) {m : Int32} {o : Bool} {mk : Nat → Int64} {j : Nat} (hj : j < aN (yA S)) (hR : RCd (yA S) ρ) (h0 : gN ρ 0 = 0) (hq : kq ρ = kq σ) (h6 : gI ρ 6 = m) (hw : ∀ k, gA ρ 8 k ≤ 20000) (hz : (fAll S j).2.1 = 0)
    (hr : aN (yA S) + rmN S m j ≤ 1500 ∧ tot (aP (yA S)) (aN (yA S)) + (rmN S m j - 1) ≤ 4000) (hm : o = true → mkOK ρ mk (j + 1)) :
    preG (mkS ρ o mk) 28 j ∧ gA (goW (mkS ρ o mk) 28 j) 3 0 = aN (yA S) + rmN S m j - 1 ∧ ∃ F : List (Nat × Nat) × Int32 × Bool, RW F (goW (mkS ρ o mk) 28 j) ∧ tld S F = tld S (fAll S j) ∧ RCd (rmA S m o j) (goW (mkS ρ o mk) 28 j) ∧ WA (rmA S m o j) ∧ kq (goW (mkS ρ o mk) 28 j) = kq σ := by
  obtain ⟨g1, hA, g3, g4, g5, g6⟩ := h.rg
  obtain ⟨m1, m2, m3, m4, m5, m6⟩ := mkS_12 ρ o mk
  have hq' := hq
  simp only [kq, Prod.mk.injEq] at hq'
  obtain ⟨k2, k3, k4, k9⟩ := hq'
  have m2' := m2
  simp only [kp, Prod.mk.injEq] at m2'
  obtain ⟨a0, a1, a2, a3, a4, a5, a6, a7, a8, a9, a10⟩ := m2'
  have hC : CI (yA S, m, o) true (mkS ρ o mk) j (yA S, []) (mkS ρ o mk) := by
    refine ⟨m4, m5, m6.trans h6, hR.ofk m2, hA, ⟨a0.trans h0, fun i hi => by simp at hi⟩, fun s hs => by simp at hs, EXT.rfl' _, rfl, fun ho => ?_⟩
    have ho : o = true := ho
    subst ho
    refine ⟨fun p hp => mkOK_mrk hA hR (hm rfl) (by omega) (p + 1) p (by omega) (by omega), fun d hd => Or.inl (fun i hi => ?_)⟩
    have hdA : d < aN (yA S) := by omega
    have q := tot_mono (ps := aP (yA S)) (show d + 1 ≤ aN (yA S) by omega)
    have hE1 : tot (aP (yA S)) (d + 1) = tot (aP (yA S)) d + (aP (yA S) d).length := rfl
    have hi : i < (aP (yA S) d).length := hi
    show (if 0 ≤ tot (aP (yA S)) d + i ∧ tot (aP (yA S)) d + i < 0 + gA ρ 1 (gN ρ 1) then gA ρ 2 (0 + (tot (aP (yA S)) d + i - 0)) else gA ρ 11 (tot (aP (yA S)) d + i)) = _
    rw [hR.1, hR.2.2.1 _ (Nat.le_refl _), if_pos (by omega), show 0 + (tot (aP (yA S)) d + i - 0) = tot (aP (yA S)) d + i by omega]
    exact hR.2.2.2 d hdA i hi
  have hbl : (bl (yA S, m, o) j).length = rmN S m j := bl_len hA (j + 1) j (by omega)
  obtain ⟨r1, r2, r3, r4⟩ := go_28 (M := (yA S, m, o)) hA hj hC (by rw [a3, k3]; exact g3) (by rw [a4, k4]; exact g4) (by rw [a4, k4]; exact g5) (by rw [m3]; exact hw) (fun _ => by rw [hbl]; exact hr)
  rw [goB_eq2 h (m1.trans hq)] at r2 r3 r4
  obtain ⟨v1, v2⟩ := runW_inv (vis (aP (yA S)) id j 1) [] (by simp) hz
  have hperm := vis_perm (M := (yA S, m, o)) hA (j + 1) j 1 (by omega)
  have hF : runW (botS S) (fun _ => false) (vis (cho (yA S, m, o)) id j 1) ([], 0, false) = (vis (cho (yA S, m, o)) id j 1, 0, false) := by
    have := runW_ok (bot := botS S) (vis (cho (yA S, m, o)) id j 1) [] (by rw [hperm.length_eq]; exact v1) (fun x hx => v2 x (hperm.mem_iff.mp hx))
    simpa using this
  have hF0 : fAll S j = (vis (aP (yA S)) id j 1, 0, false) := by
    have := runW_ok (bot := botS S) (vis (aP (yA S)) id j 1) [] v1 v2
    rw [List.nil_append] at this; exact this
  rw [hF] at r2 r4
  obtain ⟨c, _, c1⟩ := r4 rfl
  obtain ⟨d1, d2, d3, d4, d5, d6, d7, d8, d9, d10⟩ := c
  have hl := last_bl (M := (yA S, m, o)) hA (c1 rfl)
  refine ⟨r1, ?_, (vis (cho (yA S, m, o)) id j 1, 0, false), r2, ?_, d4, d5, d9.trans (m1.trans hq)⟩
  · have d6 : LSE (bns (bl (yA S, m, o) j) (yA S, [])).2 (goW (mkS ρ o mk) 28 j) := d6
    rw [d6.2 0 (by rw [c1 rfl]; decide), hl, hbl]; rfl
  · rw [hF0, tld, tld]
    show (_, _, _, ((0 : Int32), _, _)) = (_, _, _, ((0 : Int32), _, _))
    rw [hperm.length_eq, mxD_perm hperm]
theorem cl_remake {G : Gx} {a : Nat → Nat} {S : AS} {σ : St} (d m : Int32) (o : Bool) (h : RC S σ) : (∀ j, j < gN σ 1 → d = nI j → preR σ m o j) ∧ ∀ rv w, rmQ G a σ d m o rv w → PC G a (sp_remake S d m o).2 (.int (sp_remake S d m o).1) rv w := by
  have hle := h.1.1.1
  have hA := h.1.1
  constructor
  · intro j hj _
    rw [h.n1] at hj
    obtain ⟨p1, p2, p3, p4, p5, p6, p7⟩ := rm_1 h m hj
    have p3' : RCd (yA S) (goF (bcS σ m) 28 j) := p3
    refine ⟨p1, fun hz => ?_⟩
    have hz : (fAll S j).2.1 = 0 := by rw [← p2.2.2.1]; exact hz
    have e15 : gN (goF (bcS σ m) 28 j) 15 = rmN S m j := p7 hz
    have b1 : 1 ≤ rmN S m j := bl_pos (M := (yA S, m, false)) hA j
    have b2 : rmN S m j ≤ 20000 := by
      have := bl_le (M := (yA S, m, false)) hA (j + 1) j 1 (by omega)
      have q := (runW_inv (bot := botS S) (vis (aP (yA S)) id j 1) [] (by simp) hz).1
      simp only [List.length_nil, Nat.zero_add] at q
      exact Nat.le_trans this q
    refine ⟨p3'.dok hA, by rw [p3'.1, h.n1], by omega, by omega, fun e he i hi => ?_, fun hroom x y mk hmk => ?_⟩
    · have heA : e < aN (yA S) := by omega
      rw [p3'.np heA] at hi
      rw [p3'.2.2.1 e (by omega), p3'.2.2.2 e heA i hi, List.getD_eq_getElem?_getD, List.getElem?_eq_getElem hi]
      exact hA.lt (List.getElem_mem hi)
    · obtain ⟨q1, q2⟩ := hroom
      rw [p3'.1, e15] at q1
      rw [p3'.1, p3'.2.2.1 _ (Nat.le_refl _), e15] at q2
      exact (rm_2 (ρ := ee (goF (bcS σ m) 28 j) x y) h hj p3 p4 p5 p6 p2.2.2.2.2.1 hz ⟨q1, q2⟩ hmk).1
  · intro rv w hp
    rw [rmQ, h.n1] at hp
    rw [sp_remake]
    by_cases hd : hasD (aN (yA S)) d = true
    · rw [if_pos hd] at hp ⊢
      obtain ⟨j, hj, rfl, t1, t2, t3⟩ := hp
      rw [dN_nI (by omega)]
      obtain ⟨p1, p2, p3, p4, p5, p6, p7⟩ := rm_1 h m hj
      have p3' : RCd (yA S) (goF (bcS σ m) 28 j) := p3
      have e2 : gI (goF (bcS σ m) 28 j) 2 = (fAll S j).2.1 := p2.2.2.1
      rw [e2] at t1 t2 t3
      have hT : ∀ x y, RC (tld S (fAll S j)) (ee (goF (bcS σ m) 28 j) x y) := by
        intro x y
        rw [← stA_tld]
        exact h.told2 p2 hA p3 p4 p5 (goC_eq2 h (show kq (bcS σ m) = kq σ from rfl) p2) x y
      by_cases hz : (fAll S j).2.1 = 0
      · rw [if_pos hz]
        have e15 : gN (goF (bcS σ m) 28 j) 15 = rmN S m j := p7 hz
        have er : rmRoom (goF (bcS σ m) 28 j) ↔ (aN (yA S) + rmN S m j ≤ 1500 ∧ tot (aP (yA S)) (aN (yA S)) + (rmN S m j - 1) ≤ 4000) := by
          rw [rmRoom, p3'.1, e15, p3'.2.2.1 _ (Nat.le_refl _)]
        by_cases hroom : aN (yA S) + rmN S m j ≤ 1500 ∧ tot (aP (yA S)) (aN (yA S)) + (rmN S m j - 1) ≤ 4000
        · rw [if_pos hroom]
          obtain ⟨x, y, mk, x2, y2, hmk, hr, hw⟩ := t3 hz (er.mpr hroom)
          obtain ⟨_, w2, F, w3, w4, w5, w6, w7⟩ := rm_2 (ρ := ee (goF (bcS σ m) 28 j) x y) h hj p3 p4 p5 p6 p2.2.2.2.2.1 hz hroom hmk
          refine ⟨by rw [hr]; exact congrArg (fun n => some (Value.int (nI n))) w2, _, hw, ?_⟩
          rw [← w4]
          have hkq : kq (mkS (ee (goF (bcS σ m) 28 j) x y) o mk) = kq σ := (mkS_12 _ o mk).1.trans p5
          exact h.told2 (W := sN (goW (mkS (ee (goF (bcS σ m) 28 j) x y) o mk) 28 j) 0 0) w3 w6 w5 rfl w7 (goC_eq2 h hkq w3) x2 y2
        · rw [if_neg hroom]
          obtain ⟨hr, x, y, hw⟩ := t2 hz (fun z => hroom (er.mp z))
          exact ⟨hr, _, hw, hT x y⟩
      · rw [if_neg hz]
        obtain ⟨hr, x, y, hw⟩ := t1 hz
        exact ⟨hr, _, hw, hT x y⟩
    · rw [if_neg hd] at hp ⊢
      exact ⟨hp.1, _, hp.2, RC.bad (σ := bcS σ m) h⟩
theorem cl_copy (l : Launch) (G : Gx) (a : Nat → Nat) {S : AS} {σ : St} (d : Int32) (h : RC S σ) : MM l G ⟨"NestedDeeds", "copy", "(I)I"⟩ prog_1_method_18_code 2 (some .int) 258 6301 [.ref (a 0), .int d] (cw G a σ) (PC G a (sp_remake S d (nI 2147483647) false).2 (.int (sp_remake S d (nI 2147483647) false).1)) :=
  (n_copy l G a σ d h.le (cl_remake (G := G) (a := a) d (nI 2147483647) false h).1).mono (fun rv w hp => (cl_remake d (nI 2147483647) false h).2 rv w hp)
theorem cl_thin (l : Launch) (G : Gx) (a : Nat → Nat) {S : AS} {σ : St} (d t : Int32) (h : RC S σ) : MM l G ⟨"NestedDeeds", "thin", "(II)I"⟩ prog_1_method_19_code 3 (some .int) 258 6301 [.ref (a 0), .int d, .int t] (cw G a σ) (PC G a (sp_remake S d t false).2 (.int (sp_remake S d t false).1)) :=
  (n_thin l G a σ d t h.le (cl_remake (G := G) (a := a) d t false h).1).mono (fun rv w hp => (cl_remake d t false h).2 rv w hp)
theorem cl_order (l : Launch) (G : Gx) (a : Nat → Nat) {S : AS} {σ : St} (d : Int32) (h : RC S σ) : MM l G ⟨"NestedDeeds", "order", "(I)I"⟩ prog_1_method_20_code 2 (some .int) 258 6301 [.ref (a 0), .int d] (cw G a σ) (PC G a (sp_remake S d (nI 2147483647) true).2 (.int (sp_remake S d (nI 2147483647) true).1)) :=
  (n_order l G a σ d h.le (cl_remake (G := G) (a := a) d (nI 2147483647) true h).1).mono (fun rv w hp => (cl_remake d (nI 2147483647) true h).2 rv w hp)
