def stA (S : AS) (A : Ar) : AS := (A, (yW S, yM S), yP S, (yR S, yV S, yC S))
def stP (S : AS) (L : List Nat) : AS := (yA S, (yW S, yM S), L, (yR S, yV S, yC S))
def adP (A : Ar) (d p : Nat) : Ar := (aN A, aK A, aV A, va_up (aP A) d (aP A d ++ [p]))
theorem tot_up (f : Nat → List Nat) (d : Nat) (l : List Nat) (p : Nat) (hl : l = f d ++ [p]) : ∀ j, tot (va_up f d l) j = if d < j then tot f j + 1 else tot f j
  | 0 => by simp [tot]
  | j + 1 => by
    rw [tot, tot, tot_up f d l p hl j]
    by_cases e : j = d
    · subst e
      rw [va_up_self, hl, if_neg (by omega), if_pos (by omega)]; simp; omega
    · rw [va_up_ne _ _ e]
      by_cases q : d < j
      · rw [if_pos q, if_pos (by omega)]; omega
      · rw [if_neg q, if_neg (by omega)]
theorem RCd.addP {A : Ar} {σ : St} (h : RCd A σ) {d p : Nat} (hd : d < aN A) : RCd (adP A d p) (dAddP σ d p) := by
  obtain ⟨h1, h2, h3, h4⟩ := h
  have he : gA σ 1 (d + 1) = tot (aP A) (d + 1) := h3 _ (by omega)
  have hT : gA σ 1 (gN σ 1) = tot (aP A) (aN A) := by rw [h1, h3 _ (Nat.le_refl _)]
  have htu := tot_up (aP A) d (aP A d ++ [p]) p rfl
  have hmo := tot_mono (ps := aP A) (show d + 1 ≤ aN A by omega)
  have e2 : ∀ j, gA (dAddP σ d p) 2 j = if j = gA σ 1 (d + 1) then p else if gA σ 1 (d + 1) + 1 ≤ j ∧ j < gA σ 1 (d + 1) + 1 + (gA σ 1 (gN σ 1) - gA σ 1 (d + 1)) then gA σ 2 (gA σ 1 (d + 1) + (j - (gA σ 1 (d + 1) + 1))) else gA σ 2 j := fun _ => rfl
  have hps : ∀ x, aP (adP A d p) x = if x = d then aP A d ++ [p] else aP A x := fun _ => rfl
  refine ⟨h1, h2, fun j hj => ?_, fun x hx i hi => ?_⟩
  · show (if d < j ∧ j < gN σ 1 + 1 then gA σ 1 j + 1 else gA σ 1 j) = tot (va_up (aP A) d (aP A d ++ [p])) j
    have hj : j ≤ aN A := hj
    rw [htu, h3 j hj, h1]
    by_cases q : d < j
    · rw [if_pos q, if_pos ⟨q, by omega⟩]
    · rw [if_neg q, if_neg (fun z => q z.1)]
  · have hx : x < aN A := hx
    have hb : tot (aP (adP A d p)) x = if d < x then tot (aP A) x + 1 else tot (aP A) x := htu x
    rw [hps] at hi ⊢
    have q1 := tot_mono (ps := aP A) (show x + 1 ≤ aN A by omega)
    have hE1 : tot (aP A) (d + 1) = tot (aP A) d + (aP A d).length := rfl
    have hE2 : tot (aP A) (x + 1) = tot (aP A) x + (aP A x).length := rfl
    by_cases e : x = d
    · subst e
      rw [if_pos rfl] at hi
      simp only [List.length_append, List.length_singleton] at hi
      rw [if_neg (by omega)] at hb
      rw [if_pos rfl, hb, e2, he, hT]
      by_cases q : i = (aP A x).length
      · rw [if_pos (by omega), q]; simp [List.getD_eq_getElem?_getD]
      · rw [if_neg (by omega), if_neg (by omega), h4 x hx i (by omega)]
        simp only [List.getD_eq_getElem?_getD]
        rw [List.getElem?_append_left (by omega)]
    · rw [if_neg e] at hi ⊢
      by_cases q : d < x
      · have q2 := tot_mono (ps := aP A) (show d + 1 ≤ x by omega)
        rw [if_pos q] at hb
        rw [hb, e2, he, hT, if_neg (by omega), if_pos (by omega), ← h4 x hx i hi]
        congr 1; omega
      · have q2 := tot_mono (ps := aP A) (show x + 1 ≤ d by omega)
        rw [if_neg q] at hb
        rw [hb, e2, he, hT, if_neg (by omega), if_neg (by omega), h4 x hx i hi]
theorem RCd.add {A : Ar} {σ : St} (h : RCd A σ) (k : Nat) (v : Int32) : RCd (adA A k v []) (dAdd σ k v) := by
  obtain ⟨h1, h2, h3, h4⟩ := h
  have hps : ∀ d, aP (adA A k v []) d = if d = aN A then [] else aP A d := fun d => rfl
  have htl : ∀ d, d ≤ aN A → tot (aP (adA A k v [])) d = tot (aP A) d := fun d hd => tot_cong (fun e he => by rw [hps, if_neg (by omega)])
  refine ⟨?_, ?_, ?_, ?_⟩
  · show gN σ 1 + 1 = aN A + 1; rw [h1]
  · intro d hd
    have hd : d < aN A + 1 := hd
    constructor
    · show (if d = gN σ 1 then k else gA σ 0 d) = if d = aN A then k else aK A d
      rw [h1]; split
      · rfl
      · exact (h2 d (by omega)).1
    · show (if d = gN σ 1 then v else gJ σ 0 d) = if d = aN A then v else aV A d
      rw [h1]; split
      · rfl
      · exact (h2 d (by omega)).2
  · intro d hd
    have hd : d ≤ aN A + 1 := hd
    show (if d = gN σ 1 + 1 then gA σ 1 (gN σ 1) else gA σ 1 d) = _
    rw [h1]
    by_cases e : d = aN A + 1
    · subst e
      rw [if_pos rfl, h3 _ (Nat.le_refl _), tot, htl _ (Nat.le_refl _), hps, if_pos rfl]; rfl
    · rw [if_neg e, h3 d (by omega), htl d (by omega)]
  · intro d hd i hi
    have hd : d < aN A + 1 := hd
    rw [hps] at hi ⊢
    rw [htl d (by omega)]
    by_cases e : d = aN A
    · rw [if_pos e] at hi; simp at hi
    · rw [if_neg e] at hi ⊢
      exact h4 d (by omega) i hi
theorem adA_P (A : Ar) (k : Nat) (v : Int32) (l : List Nat) (p : Nat) : adP (adA A k v l) (aN A) p = adA A k v (l ++ [p]) := by
  have e : va_up (va_up (aP A) (aN A) l) (aN A) (va_up (aP A) (aN A) l (aN A) ++ [p]) = va_up (aP A) (aN A) (l ++ [p]) := by
    funext j; simp only [va_up]; split
    · simp
    · rfl
  show (aN A + 1, va_up (aK A) (aN A) k, va_up (aV A) (aN A) v, va_up (va_up (aP A) (aN A) l) (aN A) (va_up (aP A) (aN A) l (aN A) ++ [p])) = _
  rw [e]; rfl
def rpO (t : Nat) (o : Option Nat) : List Nat := match o with
  | none => []
  | some p => List.replicate t p
theorem rpO_len (t : Nat) (o : Option Nat) : (rpO t o).length = oc o * t := by cases o <;> simp [rpO, oc]
theorem RCd.link {A : Ar} {σ : St} (h : RCd A σ) (k : Nat) (v : Int32) (o : Option Nat) : ∀ t, RCd (adA A k v (rpO t o)) (lnkS σ k v t o)
  | 0 => by
    have e : rpO 0 o = [] := by cases o <;> rfl
    rw [e]; exact h.add k v
  | t + 1 => by
    have ih := RCd.link h k v o t
    cases o with
    | none => exact h.add k v
    | some p =>
      have e : rpO (t + 1) (some p) = rpO t (some p) ++ [p] := by simp [rpO, List.replicate_succ']
      rw [e, ← adA_P]
      have := ih.addP (d := aN A) (p := p) (by show aN A < aN A + 1; omega)
      rw [show lnkS σ k v (t + 1) (some p) = dAddP (lnkS σ k v t (some p)) (gN σ 1) p from rfl, h.1]
      exact this
def chA (k : Nat) (v : Int32) (t : Nat) : Nat → Ar → Option Nat → Ar
  | 0, A, _ => A
  | n + 1, A, o => chA k v t n (adA A k v (rpO t o)) (some (aN A))
theorem chA_ok {k : Nat} {v : Int32} {t : Nat} (hk : k < 12) : ∀ (n : Nat) (A : Ar) (o : Option Nat), WA A → aN A + n ≤ 1500 → tot (aP A) (aN A) + (if n = 0 then 0 else (n - 1 + oc o) * t) ≤ 4000 → (∀ p, o = some p → p < aN A) → WA (chA k v t n A o)
  | 0, _, _, h, _, _, _ => h
  | n + 1, A, o, h, h1, h2, h3 => by
    rw [if_neg (by omega), Nat.add_sub_cancel, Nat.add_mul] at h2
    have hl := rpO_len t o
    have hW : WA (adA A k v (rpO t o)) := h.ad (by omega) (by rw [hl]; omega) hk (fun p hp => by
      cases o with
      | none => cases hp
      | some q => rw [List.eq_of_mem_replicate hp]; exact h3 q rfl)
    refine chA_ok hk n (adA A k v (rpO t o)) (some (aN A)) hW (by show aN A + 1 + n ≤ _; omega) ?_ (fun p hp => by cases hp; show aN A < aN A + 1; omega)
    rw [tot_ad, hl]
    cases n with
    | zero => simp; omega
    | succ n => rw [if_neg (by omega), show oc (some (aN A)) = 1 from rfl, show n + 1 - 1 + 1 = n + 1 by omega]; omega
theorem RCd.chain {k : Nat} {v : Int32} {t : Nat} : ∀ (n : Nat) {A : Ar} {σ : St} (o : Option Nat), RCd A σ → RCd (chA k v t n A o) (chS k v t n σ o)
  | 0, _, _, _, h => h
  | n + 1, A, σ, o, h => by
    show RCd (chA k v t n (adA A k v (rpO t o)) (some (aN A))) (chS k v t n (lnkS σ k v t o) (some (gN σ 1)))
    rw [h.1]
    exact RCd.chain n _ (h.link k v o t)
/-- what the archive's changes leave as it is -/
def kz (σ : St) : Nat × Nat × Nat × Nat × (Nat → Nat) × Int32 × Nat × Nat × (Nat → Nat) := (gN σ 0, gN σ 7, gN σ 8, gN σ 2, gA σ 12, gI σ 2, gN σ 9, gN σ 11, gA σ 8)
theorem kz_addPs (σ : St) (d : Nat) (o : Option Nat) : ∀ i, kz (dAddPs σ d o i) = kz σ
  | 0 => rfl
  | i + 1 => by
    cases o with
    | none => rfl
    | some p => exact (kz_addPs σ d (some p) i)
theorem kz_link (σ : St) (k : Nat) (v : Int32) (t : Nat) (o : Option Nat) : kz (lnkS σ k v t o) = kz σ := (kz_addPs _ _ _ _).trans rfl
theorem kz_chain (k : Nat) (v : Int32) (t : Nat) : ∀ (n : Nat) (σ : St) (o : Option Nat), kz (chS k v t n σ o) = kz σ
  | 0, _, _ => rfl
  | n + 1, σ, o => (kz_chain k v t n _ _).trans (kz_link σ k v t o)
theorem RC.setA {S : AS} {σ τ : St} {A : Ar} (h : RC S σ) (hA : WA A) (hR : RCd A τ) (e : kz τ = kz σ) : RC (stA S A) τ := by
  obtain ⟨⟨o1, o2⟩, h1, h2, h3, h4, h5, h6, h7, h8, h9, h10⟩ := h
  simp only [kz, Prod.mk.injEq] at e
  obtain ⟨e1, e2, e3, e4, e5, e6, e7, e8, e9⟩ := e
  exact ⟨⟨hA, o2⟩, hR, e1.trans h2, e2.trans h3, e3.trans h4, e4.trans h5, fun i hi => (congrFun e5 i).trans (h6 i hi), e6.trans h7, e7.trans h8, e8.trans h9, fun k => by rw [e9]; exact h10 k⟩
theorem RC.dok {S : AS} {σ : St} (h : RC S σ) : DOK σ := h.2.1.dok h.1.1
theorem RC.tot {S : AS} {σ : St} (h : RC S σ) : gA σ 1 (gN σ 1) = tot (aP (yA S)) (aN (yA S)) := by rw [h.n1, h.2.1.2.2.1 _ (Nat.le_refl _)]
def sp_deed (S : AS) (k v : Int32) : Int32 × AS := if hasD 12 k = true then (if aN (yA S) < 1500 then (nI (aN (yA S)), stA S (adA (yA S) (dN k) v [])) else (-4, S)) else (-2, S)
theorem dN_lt {n : Nat} {k : Int32} (hn : n < 2 ^ 31) (h : hasD n k = true) : dN k < n ∧ k = nI (dN k) := by
  obtain ⟨j, hj, rfl⟩ := hasD_t hn h
  rw [dN, nI_clamp (by omega)]; exact ⟨hj, rfl⟩
theorem cl_deed (l : Launch) (G : Gx) (a : Nat → Nat) {S : AS} {σ : St} (k v : Int32) (h : RC S σ) : MM l G ⟨"NestedDeeds", "deed", "(II)I"⟩ prog_1_method_2_code 3 (some .int) 2 42 [.ref (a 0), .int k, .int v] (cw G a σ) (PC G a (sp_deed S k v).2 (.int (sp_deed S k v).1)) := by
  refine (n_deed l G a σ k v h.dok).mono ?_
  intro rv w ⟨hr, hw⟩
  rw [h.n1] at hr hw
  rw [sp_deed]
  by_cases q : hasD 12 k = true
  · rw [if_pos q] at hr hw ⊢
    by_cases q2 : aN (yA S) < 1500
    · rw [if_pos q2] at hr hw ⊢
      exact ⟨hr, _, hw, h.setA (h.1.1.ad q2 (by simpa using h.1.1.2.1) (dN_lt (by decide) q).1 (fun p hp => by cases hp)) (h.2.1.add _ _) rfl⟩
    · rw [if_neg q2] at hr hw ⊢
      exact ⟨hr, _, hw, h⟩
  · rw [if_neg q] at hr hw ⊢
    exact ⟨hr, _, hw, h⟩
def sp_enclose (S : AS) (d p : Int32) : Int32 × AS := if hasD (aN (yA S)) d = true ∧ hasD (aN (yA S)) p = true then (if p < d then (if tot (aP (yA S)) (aN (yA S)) < 4000 then (nI ((aP (yA S) (dN d)).length + 1), stA S (adP (yA S) (dN d) (dN p))) else (-4, S)) else (-3, S)) else (-2, S)
theorem WA.adP {A : Ar} (h : WA A) {d p : Nat} (hd : d < aN A) (hp : p < d) (ht : tot (aP A) (aN A) < 4000) : WA (adP A d p) := by
  refine ⟨h.1, ?_, h.2.2.1, fun x q hq => ?_⟩
  · show tot (va_up (aP A) d (aP A d ++ [p])) (aN A) ≤ 4000
    rw [tot_up (aP A) d _ p rfl, if_pos hd]; omega
  · have hq : q ∈ (if x = d then aP A d ++ [p] else aP A x) := hq
    split at hq
    · next e =>
      rcases List.mem_append.mp hq with hq | hq
      · rw [e]; exact h.lt hq
      · rw [List.mem_singleton] at hq; rw [e, hq]; exact hp
    · exact h.lt hq
theorem cl_enclose (l : Launch) (G : Gx) (a : Nat → Nat) {S : AS} {σ : St} (d p : Int32) (h : RC S σ) : MM l G ⟨"NestedDeeds", "enclose", "(II)I"⟩ prog_1_method_3_code 3 (some .int) 2 84 [.ref (a 0), .int d, .int p] (cw G a σ) (PC G a (sp_enclose S d p).2 (.int (sp_enclose S d p).1)) := by
  have hle := h.1.1.1
  refine (n_enclose l G a σ d p h.dok).mono ?_
  intro rv w ⟨hr, hw⟩
  rw [encR, h.tot, h.n1] at hr
  rw [encS, h.tot, h.n1] at hw
  rw [sp_enclose]
  by_cases q : hasD (aN (yA S)) d = true ∧ hasD (aN (yA S)) p = true
  · rw [if_pos q] at hr ⊢
    have hd := dN_lt (by omega) q.1
    have hp := dN_lt (by omega) q.2
    by_cases q2 : p < d
    · rw [if_pos q2] at hr ⊢
      by_cases q3 : tot (aP (yA S)) (aN (yA S)) < 4000
      · rw [if_pos q3] at hr ⊢
        rw [if_pos ⟨q.1, q.2, q2, q3⟩] at hw
        have hpd : dN p < dN d := by
          rw [hd.2, hp.2] at q2
          exact (nI_ltI (by omega) (by omega)).mp q2
        refine ⟨?_, _, hw, h.setA (h.1.1.adP hd.1 hpd q3) (h.2.1.addP hd.1) rfl⟩
        rw [hr, show npt σ d.toNatClampNeg = (aP (yA S) (dN d)).length from h.2.1.np hd.1]
      · rw [if_neg q3] at hr ⊢
        rw [if_neg (fun z => q3 z.2.2.2)] at hw
        exact ⟨hr, _, hw, h⟩
    · rw [if_neg q2] at hr ⊢
      rw [if_neg (fun z => q2 z.2.2.1)] at hw
      exact ⟨hr, _, hw, h⟩
  · rw [if_neg q] at hr ⊢
    rw [if_neg (fun z => q ⟨z.1, z.2.1⟩)] at hw
    exact ⟨hr, _, hw, h⟩
def cOK (S : AS) (n k t f : Int32) : Bool := inR n (nI 1) (nI 400) && inR t (nI 1) (nI 4) && hasD 12 k && (decide (f = -1) || hasD (aN (yA S)) f)
def sp_chain (S : AS) (n k v t f : Int32) : Int32 × AS := if cOK S n k t f = true then (if aN (yA S) + dN n ≤ 1500 ∧ tot (aP (yA S)) (aN (yA S)) + chNd (dN n) (dN t) (fO f) ≤ 4000 then (nI (aN (yA S) + dN n - 1), stA S (chA (dN k) v (dN t) (dN n) (yA S) (fO f))) else (-4, S)) else (-2, S)
theorem cl_chain (l : Launch) (G : Gx) (a : Nat → Nat) {S : AS} {σ : St} (n k v t f : Int32) (h : RC S σ) : MM l G ⟨"NestedDeeds", "chain", "(IIIII)I"⟩ prog_1_method_4_code 10 (some .int) 3 110 [.ref (a 0), .int n, .int k, .int v, .int t, .int f] (cw G a σ) (PC G a (sp_chain S n k v t f).2 (.int (sp_chain S n k v t f).1)) := by
  have hle := h.1.1.1
  refine (n_chain l G a σ n k v t f h.dok).mono ?_
  intro rv w hp
  have ec : chOK σ n k t f = cOK S n k t f := by rw [chOK, cOK, h.n1]
  rw [chP, ec, chRoom, h.tot, h.n1] at hp
  rw [sp_chain]
  by_cases q : cOK S n k t f = true
  · rw [if_pos q] at hp ⊢
    by_cases q2 : aN (yA S) + dN n ≤ 1500 ∧ tot (aP (yA S)) (aN (yA S)) + chNd (dN n) (dN t) (fO f) ≤ 4000
    · rw [if_pos q2]
      obtain ⟨hr, hw⟩ := hp.1 q2
      simp only [cOK, Bool.and_eq_true, Bool.or_eq_true, decide_eq_true_eq] at q
      obtain ⟨⟨⟨c1, c2⟩, c3⟩, c4⟩ := q
      obtain ⟨jn, jn1, jn2, rfl⟩ := inR_nat (by decide) (by decide) c1
      have en : dN (nI jn) = jn := dN_nI (by omega)
      refine ⟨hr, _, hw, h.setA ?_ (h.2.1.chain _ _) (kz_chain _ _ _ _ _ _)⟩
      refine chA_ok (dN_lt (by decide) c3).1 _ _ _ h.1.1 q2.1 ?_ (fO_lt hle c4)
      rw [en, if_neg (by omega)]
      have := q2.2
      rw [en, chNd] at this
      exact this
    · rw [if_neg q2]
      obtain ⟨hr, hw⟩ := hp.2 q2
      exact ⟨hr, _, hw, h⟩
  · rw [if_neg q] at hp ⊢
    exact ⟨hp.1, _, hp.2, h⟩
def sp_way (S : AS) (x : Int32) : Int32 × AS := if inR x (nI 0) (nI 3) = true then (nI (yW S), (yA S, (dN x, yM S), yP S, (yR S, yV S, yC S))) else (-2, S)
def sp_meter (S : AS) (x : Int32) : Int32 × AS := if inR x (nI 1) (nI 300) = true then (nI (yM S), (yA S, (yW S, dN x), yP S, (yR S, yV S, yC S))) else (-2, S)
theorem cl_way (l : Launch) (G : Gx) (a : Nat → Nat) {S : AS} {σ : St} (x : Int32) (h : RC S σ) : MM l G ⟨"NestedDeeds", "way", "(I)I"⟩ prog_1_method_6_code 3 (some .int) 0 0 [.ref (a 0), .int x] (cw G a σ) (PC G a (sp_way S x).2 (.int (sp_way S x).1)) := by
  refine (n_way l G a σ x).mono ?_
  intro rv w ⟨hr, hw⟩
  rw [sp_way]
  by_cases q : inR x (nI 0) (nI 3) = true
  · rw [if_pos q] at hr hw ⊢
    obtain ⟨j, j1, j2, rfl⟩ := inR_nat (by decide) (by decide) q
    obtain ⟨⟨o1, o2, o3⟩, h1, h2, h3, h4, h5⟩ := h
    refine ⟨by rw [hr, h3], _, hw, ⟨o1, ?_, o3⟩, h1, h2, rfl, h4, h5⟩
    show dN (nI j) ≤ 3
    rw [dN_nI (by omega)]; exact j2
  · rw [if_neg q] at hr hw ⊢
    exact ⟨hr, _, hw, h⟩
theorem cl_meter (l : Launch) (G : Gx) (a : Nat → Nat) {S : AS} {σ : St} (x : Int32) (h : RC S σ) : MM l G ⟨"NestedDeeds", "meter", "(I)I"⟩ prog_1_method_7_code 3 (some .int) 0 0 [.ref (a 0), .int x] (cw G a σ) (PC G a (sp_meter S x).2 (.int (sp_meter S x).1)) := by
  refine (n_meter l G a σ x).mono ?_
  intro rv w ⟨hr, hw⟩
  rw [sp_meter]
  by_cases q : inR x (nI 1) (nI 300) = true
  · rw [if_pos q] at hr hw ⊢
    obtain ⟨j, j1, j2, rfl⟩ := inR_nat (by decide) (by decide) q
    obtain ⟨⟨o1, o2, o3, o4, o5⟩, h1, h2, h3, h4, h5⟩ := h
    have ej : dN (nI j) = j := dN_nI (by omega)
    refine ⟨by rw [hr, h4], _, hw, ⟨o1, o2, ?_, ?_, o5⟩, h1, h2, h3, rfl, h5⟩
    · show 1 ≤ dN (nI j); omega
    · show dN (nI j) ≤ 300; omega
  · rw [if_neg q] at hr hw ⊢
    exact ⟨hr, _, hw, h⟩
def ofS (S : AS) (d q : Nat) : Int32 := if q = 0 then nI (aK (yA S) d) else if q = 1 then nI (aP (yA S) d).length else aV (yA S) d
def sp_of (S : AS) (d x : Int32) : Int32 := if hasD (aN (yA S)) d = true ∧ hasD 3 x = true then ofS S (dN d) (dN x) else -2147483648
theorem cl_of (l : Launch) (G : Gx) (a : Nat → Nat) {S : AS} {σ : St} (d x : Int32) (h : RC S σ) : MM l G ⟨"NestedDeeds", "of", "(II)I"⟩ prog_1_method_8_code 3 (some .int) 1 21 [.ref (a 0), .int d, .int x] (cw G a σ) (PC G a S (.int (sp_of S d x))) := by
  have hle := h.1.1.1
  refine (n_of l G a σ d x h.dok).mono ?_
  intro rv w ⟨hr, hw⟩
  rw [h.n1] at hr
  refine ⟨?_, _, hw, h⟩
  rw [hr, sp_of]
  by_cases q : hasD (aN (yA S)) d = true ∧ hasD 3 x = true
  · have hd := (dN_lt (by omega) q.1).1
    rw [if_pos q, if_pos q]
    show some (Value.int (ofF σ (dN d) (dN x))) = _
    rw [ofF, ofS, (h.2.1.2.1 _ hd).1, (h.2.1.2.1 _ hd).2, h.2.1.np hd]
  · rw [if_neg q, if_neg q]
def sp_part (S : AS) (d x : Int32) : Int32 := if hasD (aN (yA S)) d = true ∧ hasD (aP (yA S) (dN d)).length x = true then nI ((aP (yA S) (dN d)).getD (dN x) 0) else -2
theorem tot_len {A : Ar} (hA : WA A) {d : Nat} (hd : d < aN A) : (aP A d).length ≤ 4000 := by
  have q := tot_mono (ps := aP A) (show d + 1 ≤ aN A by omega)
  have := hA.2.1
  simp only [tot] at q; omega
theorem cl_part (l : Launch) (G : Gx) (a : Nat → Nat) {S : AS} {σ : St} (d x : Int32) (h : RC S σ) : MM l G ⟨"NestedDeeds", "part", "(II)I"⟩ prog_1_method_9_code 3 (some .int) 1 22 [.ref (a 0), .int d, .int x] (cw G a σ) (PC G a S (.int (sp_part S d x))) := by
  have hle := h.1.1.1
  refine (n_part l G a σ d x h.dok).mono ?_
  intro rv w ⟨hr, hw⟩
  rw [h.n1] at hr
  refine ⟨?_, _, hw, h⟩
  rw [hr, sp_part]
  by_cases q : hasD (aN (yA S)) d = true
  · have hd := (dN_lt (by omega) q).1
    rw [show npt σ d.toNatClampNeg = (aP (yA S) (dN d)).length from h.2.1.np hd]
    by_cases q2 : hasD (aP (yA S) (dN d)).length x = true
    · have hx := (dN_lt (by have := tot_len h.1.1 hd; omega) q2).1
      rw [if_pos ⟨q, q2⟩, if_pos ⟨q, q2⟩, show gA σ 1 d.toNatClampNeg = tot (aP (yA S)) (dN d) from h.2.1.2.2.1 (dN d) (by omega), show gA σ 2 (tot (aP (yA S)) (dN d) + x.toNatClampNeg) = _ from h.2.1.2.2.2 _ hd _ hx]
    · rw [if_neg (fun z => q2 z.2), if_neg (fun z => q2 z.2)]
  · rw [if_neg (fun z => q z.1), if_neg (fun z => q z.1)]
def cntS (S : AS) (q : Nat) : Nat := if q = 0 then aN (yA S) else if q = 1 then tot (aP (yA S)) (aN (yA S)) else if q = 2 then (yP S).length else if q = 3 then yV S else yC S
def sp_count (S : AS) (x : Int32) : Int32 := if hasD 5 x = true then nI (cntS S (dN x)) else -2
theorem cl_count (l : Launch) (G : Gx) (a : Nat → Nat) {S : AS} {σ : St} (x : Int32) (h : RC S σ) : MM l G ⟨"NestedDeeds", "count", "(I)I"⟩ prog_1_method_27_code 2 (some .int) 1 20 [.ref (a 0), .int x] (cw G a σ) (PC G a S (.int (sp_count S x))) := by
  refine (n_count l G a σ x h.le).mono ?_
  intro rv w ⟨hr, hw⟩
  refine ⟨?_, _, hw, h⟩
  rw [hr, sp_count, cntF, h.tot, h.n1, h.2.2.2.2.2.1, h.2.2.2.2.2.2.2.2.1, h.2.2.2.2.2.2.2.2.2.1]; rfl
theorem cl_answer (l : Launch) (G : Gx) (a : Nat → Nat) {S : AS} {σ : St} (h : RC S σ) : MM l G ⟨"NestedDeeds", "answer", "()I"⟩ prog_1_method_26_code 1 (some .int) 0 0 [.ref (a 0)] (cw G a σ) (PC G a S (.int (yR S))) := by
  refine (n_answer l G a σ).mono ?_
  intro rv w ⟨hr, hw⟩
  exact ⟨by rw [hr, h.2.2.2.2.2.2.2.1], _, hw, h⟩
theorem cl_tear (l : Launch) (G : Gx) (a : Nat → Nat) {S : AS} {σ : St} (h : RC S σ) : MM l G ⟨"NestedDeeds", "tear", "()I"⟩ prog_1_method_23_code 2 (some .int) 1 20 [.ref (a 0)] (cw G a σ) (PC G a (stP S []) (.int (nI (yP S).length))) := by
  refine (n_tear l G a σ).mono ?_
  intro rv w ⟨hr, hw⟩
  obtain ⟨⟨o1, o2, o3, o4, o5, o6, o7⟩, h1, h2, h3, h4, h5, h6, h7⟩ := h
  exact ⟨by rw [hr, h5], _, hw, ⟨o1, o2, o3, o4, by show ([] : List Nat).length ≤ 6000; simp, fun b (hb : b ∈ ([] : List Nat)) => by simp at hb, o7⟩, h1, h2, h3, h4, rfl, fun i (hi : i < ([] : List Nat).length) => absurd hi (Nat.not_lt_zero _), h7⟩
def sp_byteAt (S : AS) (i : Int32) : Int32 := if hasD (yP S).length i = true then nI ((yP S).getD (dN i) 0) else -1
theorem cl_byteAt (l : Launch) (G : Gx) (a : Nat → Nat) {S : AS} {σ : St} (i : Int32) (h : RC S σ) : MM l G ⟨"NestedDeeds", "byteAt", "(I)I"⟩ prog_1_method_24_code 2 (some .int) 1 21 [.ref (a 0), .int i] (cw G a σ) (PC G a S (.int (sp_byteAt S i))) := by
  have h0 := h
  obtain ⟨⟨o1, o2, o3, o4, o5, o6, o7⟩, h1, h2, h3, h4, h5, h6, h7⟩ := h
  have hb : ∀ j, j < (yP S).length → gA σ 12 j < 256 := by
    intro j hj
    rw [h6 j hj, List.getD_eq_getElem?_getD, List.getElem?_eq_getElem hj]
    exact o6 _ (List.getElem_mem hj)
  refine (n_byteAt l G a σ i (by rw [h5]; exact o5) (by rw [h5]; exact hb)).mono ?_
  intro rv w ⟨hr, hw⟩
  refine ⟨?_, _, hw, h0⟩
  rw [hr, h5, sp_byteAt]
  by_cases q : hasD (yP S).length i = true
  · rw [if_pos q, if_pos q, show gA σ 12 i.toNatClampNeg = _ from h6 _ (dN_lt (by omega) q).1]
  · rw [if_neg q, if_neg q]
def sp_feed (S : AS) (u : Int64) (n : Int32) : Int32 × AS := if inR n (nI 1) (nI 8) = true then (if (yP S).length + dN n ≤ 6000 then (nI ((yP S).length + dN n), stP S (yP S ++ fdL u (dN n))) else (-4, S)) else (-2, S)
theorem fdL_256 (u : Int64) : ∀ (c b : Nat), b ∈ fdL u c → b < 256
  | 0, b, h => by cases h
  | c + 1, b, h => by
    simp only [fdL] at h
    rcases List.mem_cons.mp h with e | h
    · rw [e, fdB]; exact Nat.mod_lt _ (by decide)
    · exact fdL_256 u c b h
theorem cl_feed (l : Launch) (G : Gx) (a : Nat → Nat) {S : AS} {σ : St} (u : Int64) (n : Int32) (h : RC S σ) : MM l G ⟨"NestedDeeds", "feed", "(JI)I"⟩ prog_1_method_22_code 5 (some .int) 1 21 [.ref (a 0), .long u, .int n] (cw G a σ) (PC G a (sp_feed S u n).2 (.int (sp_feed S u n).1)) := by
  have h0 := h
  obtain ⟨⟨o1, o2, o3, o4, o5, o6, o7⟩, h1, h2, h3, h4, h5, h6, h7⟩ := h
  refine (n_feed l G a σ u n (by rw [h5]; exact o5)).mono ?_
  intro rv w ⟨hr, hw⟩
  rw [h5] at hr hw
  rw [sp_feed]
  by_cases q : inR n (nI 1) (nI 8) = true
  · rw [if_pos q] at hr hw ⊢
    by_cases q2 : (yP S).length + dN n ≤ 6000
    · rw [if_pos q2] at hr hw ⊢
      have hl := fdL_len u (dN n)
      have e12 : ∀ i, gA (pAddsP σ (fdL u (dN n))) 12 i = if gN σ 2 ≤ i ∧ i < gN σ 2 + (fdL u (dN n)).length ∧ i < 6000 then (fdL u (dN n)).getD (i - gN σ 2) 0 else gA σ 12 i := fun _ => rfl
      have e2 : gN (pAddsP σ (fdL u (dN n))) 2 = min 6000 (gN σ 2 + (fdL u (dN n)).length) := rfl
      refine ⟨hr, _, hw, ⟨o1, o2, o3, o4, ?_, ?_, o7⟩, h1, h2, h3, h4, ?_, ?_, h7⟩
      · show (yP S ++ fdL u (dN n)).length ≤ 6000
        rw [List.length_append, hl]; exact q2
      · intro b hb
        have hb : b ∈ yP S ++ fdL u (dN n) := hb
        rcases List.mem_append.mp hb with hb | hb
        · exact o6 b hb
        · exact fdL_256 u _ b hb
      · show gN (pAddsP σ (fdL u (dN n))) 2 = (yP S ++ fdL u (dN n)).length
        rw [e2, List.length_append, h5, hl]; omega
      · intro i hi
        have hi : i < (yP S ++ fdL u (dN n)).length := hi
        rw [List.length_append, hl] at hi
        show gA (pAddsP σ (fdL u (dN n))) 12 i = (yP S ++ fdL u (dN n)).getD i 0
        rw [e12, h5, hl]
        simp only [List.getD_eq_getElem?_getD]
        by_cases z : i < (yP S).length
        · rw [if_neg (by omega), List.getElem?_append_left z, h6 i z, List.getD_eq_getElem?_getD]
        · rw [if_pos (by omega), List.getElem?_append_right (by omega)]
    · rw [if_neg q2] at hr hw ⊢
      exact ⟨hr, _, hw, h0⟩
  · rw [if_neg q] at hr hw ⊢
    exact ⟨hr, _, hw, h0⟩
