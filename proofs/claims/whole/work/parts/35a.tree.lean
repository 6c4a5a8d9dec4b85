/-- the reference's tree: how many nodes, their children, kinds and numbers, marks -/
def TR (n : Nat) (cl : Nat → List Nat) (nd : Nat → Nat × Int32) (mN : Nat → Int64) (τ : St) : Prop :=
  gN τ 11 = n ∧
  (∀ x, x < n → gA τ 10 x = (nd x).1 ∧ gJ τ 1 x = (nd x).2 ∧ gL τ 2 x = mN x ∧ gP τ 4 x = (cl x)[0]?) ∧
  (∀ (x i j : Nat), x < n → (cl x)[i]? = some j → x < j ∧ j < n ∧ gP τ 5 j = (cl x)[i + 1]? ∧ gP τ 6 j = some x) ∧
  (∀ (x y i k j : Nat), x < n → y < n → (cl x)[i]? = some j → (cl y)[k]? = some j → x = y ∧ i = k) ∧
  (0 < n → gP τ 6 0 = none ∧ gP τ 5 0 = none)
def xT (τ σ : St) : Prop := (∀ k, ¬ k = 11 → gN τ k = gN σ k) ∧ (∀ k, ¬ k = 10 → gA τ k = gA σ k) ∧ gI τ = gI σ ∧ (∀ k, ¬ k = 1 → gJ τ k = gJ σ k) ∧ (∀ k, ¬ k = 2 → gL τ k = gL σ k) ∧ gB τ = gB σ ∧ gO τ = gO σ ∧ (∀ k, ¬ k = 4 → ¬ k = 5 → ¬ k = 6 → gP τ k = gP σ k)
theorem xT.rf (σ : St) : xT σ σ := ⟨fun _ _ => rfl, fun _ _ => rfl, rfl, fun _ _ => rfl, fun _ _ => rfl, rfl, rfl, fun _ _ _ _ => rfl⟩
theorem xT.tr {a b c : St} (h : xT a b) (g : xT b c) : xT a c := ⟨fun k hk => (h.1 k hk).trans (g.1 k hk), fun k hk => (h.2.1 k hk).trans (g.2.1 k hk), h.2.2.1.trans g.2.2.1, fun k hk => (h.2.2.2.1 k hk).trans (g.2.2.2.1 k hk), fun k hk => (h.2.2.2.2.1 k hk).trans (g.2.2.2.2.1 k hk), h.2.2.2.2.2.1.trans g.2.2.2.2.2.1, h.2.2.2.2.2.2.1.trans g.2.2.2.2.2.2.1, fun k h1 h2 h3 => (h.2.2.2.2.2.2.2 k h1 h2 h3).trans (g.2.2.2.2.2.2.2 k h1 h2 h3)⟩
theorem xT_ars {τ σ : St} (h : xT τ σ) : ars τ = ars σ := by
  obtain ⟨h1, h2, h3, h4, h5, h6, h7, h8⟩ := h
  simp only [ars]
  rw [h1 0 (by decide), h1 1 (by decide), h2 0 (by decide), h2 1 (by decide), h2 2 (by decide), h4 0 (by decide), h8 0 (by decide) (by decide) (by decide), h8 1 (by decide) (by decide) (by decide), h8 2 (by decide) (by decide) (by decide)]
theorem insL_first {m : Nat → Int64} {x : Nat} : ∀ {s : List Nat} {i : Nat}, i ≤ s.length → (∀ j, j < i → ¬ m x < m (s.getD j 0)) → (i = s.length ∨ m x < m (s.getD i 0)) → insL m x s = s.take i ++ x :: s.drop i
  | [], i, hl, _, _ => by
    have : i = 0 := by simpa using hl
    subst this; rfl
  | y :: s, 0, _, _, h2 => by
    have h3 : m x < m y := by
      rcases h2 with h2 | h2
      · cases h2
      · exact h2
    simp only [insL]; rw [if_pos h3]; rfl
  | y :: s, i + 1, hl, h1, h2 => by
    have h0 := h1 0 (by omega)
    simp only [insL]; rw [if_neg (by simpa using h0), insL_first (i := i) (by simpa using hl) (fun j hj => by have := h1 (j + 1) (by omega); simpa using this) (by
      rcases h2 with h2 | h2
      · left; simpa using h2
      · right; simpa using h2)]; rfl
def pl0 (σ : St) (n k : Nat) (v : Int32) (m : Int64) (u : Option Nat) : St := sN (sP (sP (sP (sL (sJ (sA σ 10 (va_up (gA σ 10) n k)) 1 (va_up (gJ σ 1) n v)) 2 (va_up (gL σ 2) n m)) 4 (va_up (gP σ 4) n none)) 5 (va_up (gP σ 5) n none)) 6 (va_up (gP σ 6) n u)) 11 (n + 1)
theorem xT_pl0 (σ : St) (n k : Nat) (v : Int32) (m : Int64) (u : Option Nat) : xT (pl0 σ n k v m u) σ :=
  ⟨fun j hj => va_up_ne _ _ hj, fun j hj => va_up_ne _ _ hj, rfl, fun j hj => va_up_ne _ _ hj, fun j hj => va_up_ne _ _ hj, rfl, rfl, fun j h4 h5 h6 => (va_up_ne _ _ h6).trans ((va_up_ne _ _ h5).trans (va_up_ne _ _ h4))⟩
theorem TR.new {n : Nat} {cl : Nat → List Nat} {nd : Nat → Nat × Int32} {mN : Nat → Int64} {σ : St} (h : TR n cl nd mN σ) (k : Nat) (v : Int32) (m : Int64) (u : Option Nat) (hu : n = 0 → u = none) : TR (n + 1) (va_up cl n []) (va_up nd n (k, v)) (va_up mN n m) (pl0 σ n k v m u) := by
  obtain ⟨h1, h2, h3, h4, h5⟩ := h
  have hup : ∀ x, ¬ x = n → va_up cl n [] x = cl x := fun x hx => va_up_ne _ _ hx
  refine ⟨rfl, fun x hx => ?_, fun x i j hx hj => ?_, fun x y i q j hx hy hi hq => ?_, fun _ => ?_⟩
  · by_cases e : x = n
    · subst e
      refine ⟨?_, ?_, ?_, ?_⟩
      · show va_up (gA σ 10) x k x = (va_up nd x (k, v) x).1; rw [va_up_self, va_up_self]
      · show va_up (gJ σ 1) x v x = (va_up nd x (k, v) x).2; rw [va_up_self, va_up_self]
      · show va_up (gL σ 2) x m x = va_up mN x m x; rw [va_up_self, va_up_self]
      · show va_up (gP σ 4) x none x = _; rw [va_up_self, va_up_self]; rfl
    · obtain ⟨q1, q2, q3, q4⟩ := h2 x (by omega)
      rw [hup x e, va_up_ne nd _ e, va_up_ne mN _ e]
      refine ⟨?_, ?_, ?_, ?_⟩
      · show va_up (gA σ 10) n k x = _; rw [va_up_ne _ _ e]; exact q1
      · show va_up (gJ σ 1) n v x = _; rw [va_up_ne _ _ e]; exact q2
      · show va_up (gL σ 2) n m x = _; rw [va_up_ne _ _ e]; exact q3
      · show va_up (gP σ 4) n none x = _; rw [va_up_ne _ _ e]; exact q4
  · by_cases e : x = n
    · rw [e, va_up_self] at hj; simp at hj
    · rw [hup x e] at hj ⊢
      obtain ⟨q1, q2, q3, q4⟩ := h3 x i j (by omega) hj
      refine ⟨q1, by omega, ?_, ?_⟩
      · show va_up (gP σ 5) n none j = _; rw [va_up_ne _ _ (by omega)]; exact q3
      · show va_up (gP σ 6) n u j = _; rw [va_up_ne _ _ (by omega)]; exact q4
  · by_cases e : x = n
    · rw [e, va_up_self] at hi; simp at hi
    · by_cases e2 : y = n
      · rw [e2, va_up_self] at hq; simp at hq
      · rw [hup x e] at hi
        rw [hup y e2] at hq
        exact h4 x y i q j (by omega) (by omega) hi hq
  · by_cases e : n = 0
    · subst e
      constructor
      · show va_up (gP σ 6) 0 u 0 = none; rw [va_up_self]; exact hu rfl
      · show va_up (gP σ 5) 0 none 0 = none; rw [va_up_self]
    · constructor
      · show va_up (gP σ 6) n u 0 = none; rw [va_up_ne _ _ (by omega)]; exact (h5 (by omega)).1
      · show va_up (gP σ 5) n none 0 = none; rw [va_up_ne _ _ (by omega)]; exact (h5 (by omega)).2
theorem ins_get? (l : List Nat) (n i : Nat) (hi : i ≤ l.length) (q : Nat) : (l.take i ++ n :: l.drop i)[q]? = if q < i then l[q]? else if q = i then some n else l[q - 1]? := by
  by_cases h1 : q < i
  · rw [if_pos h1, List.getElem?_append_left (by simp; omega), List.getElem?_take_of_lt h1]
  · rw [if_neg h1, List.getElem?_append_right (by simp; omega)]
    simp only [List.length_take, Nat.min_eq_left hi]
    by_cases h2 : q = i
    · subst h2; rw [if_pos rfl]; simp
    · rw [if_neg h2, show q - i = (q - 1 - i) + 1 by omega, List.getElem?_cons_succ, List.getElem?_drop, show i + (q - 1 - i) = q - 1 by omega]
def plk (τ : St) (n u i : Nat) (l : List Nat) : St := if i = 0 then sP (sP τ 5 (va_up (gP τ 5) n l[i]?)) 4 (va_up (gP τ 4) u (some n)) else sP (sP τ 5 (va_up (gP τ 5) n l[i]?)) 5 (va_up (va_up (gP τ 5) n l[i]?) (l.getD (i - 1) 0) (some n))
theorem xT_plk (τ : St) (n u i : Nat) (l : List Nat) : xT (plk τ n u i l) τ := by
  rw [plk]; split
  · exact ⟨fun _ _ => rfl, fun _ _ => rfl, rfl, fun _ _ => rfl, fun _ _ => rfl, rfl, rfl, fun j h4 h5 h6 => (va_up_ne _ _ h4).trans (va_up_ne _ _ h5)⟩
  · exact ⟨fun _ _ => rfl, fun _ _ => rfl, rfl, fun _ _ => rfl, fun _ _ => rfl, rfl, rfl, fun j h4 h5 h6 => (va_up_ne _ _ h5).trans (va_up_ne _ _ h5)⟩
theorem TR.link {n : Nat} {cl : Nat → List Nat} {nd : Nat → Nat × Int32} {mN : Nat → Int64} {τ : St} (h : TR (n + 1) cl nd mN τ) {u i : Nat} (hu : u < n) (hi : i ≤ (cl u).length) (hun : ∀ (x q : Nat), x < n + 1 → ¬ (cl x)[q]? = some n) (h6 : gP τ 6 n = some u) : TR (n + 1) (va_up cl u ((cl u).take i ++ n :: (cl u).drop i)) nd mN (plk τ n u i (cl u)) := by
  obtain ⟨h1, h2, h3, h4, h5⟩ := h
  have hlt : ∀ (x q j : Nat), x < n + 1 → (cl x)[q]? = some j → j < n := fun x q j hx hj => by
    have := (h3 x q j hx hj).2.1
    by_cases e : j = n
    · rw [e] at hj; exact absurd hj (hun x q hx)
    · omega
  have c4 : ∀ x, gP (plk τ n u i (cl u)) 4 x = if i = 0 ∧ x = u then some n else gP τ 4 x := by
    intro x
    rw [plk]
    by_cases e : i = 0
    · rw [if_pos e]
      show va_up (gP τ 4) u (some n) x = _
      simp only [va_up, e, true_and]
    · rw [if_neg e, if_neg (fun z => e z.1)]; rfl
  have hbe : ¬ i = 0 → (cl u)[i - 1]? = some ((cl u).getD (i - 1) 0) := fun e => gD (by omega)
  have c5 : ∀ x, gP (plk τ n u i (cl u)) 5 x = if ¬ i = 0 ∧ x = (cl u).getD (i - 1) 0 then some n else if x = n then (cl u)[i]? else gP τ 5 x := by
    intro x
    rw [plk]
    by_cases e : i = 0
    · rw [if_pos e, if_neg (fun z => z.1 e)]; rfl
    · rw [if_neg e]
      show va_up (va_up (gP τ 5) n (cl u)[i]?) ((cl u).getD (i - 1) 0) (some n) x = _
      simp only [va_up, e, not_false_eq_true, true_and]
  have c6 : gP (plk τ n u i (cl u)) 6 = gP τ 6 := by rw [plk]; split <;> rfl
  have cN : gN (plk τ n u i (cl u)) = gN τ ∧ gA (plk τ n u i (cl u)) = gA τ ∧ gJ (plk τ n u i (cl u)) = gJ τ ∧ gL (plk τ n u i (cl u)) = gL τ := by rw [plk]; split <;> exact ⟨rfl, rfl, rfl, rfl⟩
  have key : ∀ (x q j : Nat), x < n + 1 → (va_up cl u ((cl u).take i ++ n :: (cl u).drop i) x)[q]? = some j → (x = u ∧ q = i ∧ j = n) ∨ (j < n ∧ (cl x)[if x = u ∧ i < q then q - 1 else q]? = some j ∧ ¬ (x = u ∧ q = i)) := by
    intro x q j hx hj
    by_cases e : x = u
    · subst e
      rw [va_up_self, ins_get? _ _ _ hi] at hj
      by_cases q1 : q < i
      · rw [if_pos q1] at hj
        right
        rw [if_neg (by omega)]
        exact ⟨hlt _ _ _ hx hj, hj, by omega⟩
      · rw [if_neg q1] at hj
        by_cases q2 : q = i
        · rw [if_pos q2] at hj
          left
          exact ⟨rfl, q2, (Option.some.inj hj).symm⟩
        · rw [if_neg q2] at hj
          right
          rw [if_pos ⟨rfl, by omega⟩]
          exact ⟨hlt _ _ _ hx hj, hj, fun z => q2 z.2⟩
    · rw [va_up_ne _ _ e] at hj
      right
      rw [if_neg (fun z => e z.1)]
      exact ⟨hlt _ _ _ hx hj, hj, fun z => e z.1⟩
  refine ⟨by rw [cN.1]; exact h1, fun x hx => ?_, fun x q j hx hj => ?_, fun x y q r j hx hy hq hr => ?_, fun h0 => ?_⟩
  · obtain ⟨q1, q2, q3, q4⟩ := h2 x hx
    rw [cN.2.1, cN.2.2.1, cN.2.2.2, c4]
    refine ⟨q1, q2, q3, ?_⟩
    by_cases e : x = u
    · subst e
      rw [va_up_self, ins_get? _ _ _ hi]
      by_cases e0 : i = 0
      · rw [if_pos ⟨e0, rfl⟩, if_neg (by omega), if_pos e0.symm]
      · rw [if_neg (fun z => e0 z.1), if_pos (by omega), q4]
    · rw [if_neg (fun z => e z.2), va_up_ne _ _ e, q4]
  · rw [c5, c6]
    rcases key x q j hx hj with ⟨rfl, rfl, rfl⟩ | ⟨hjn, hjc, hne⟩
    · have hL : (if ¬ q = 0 ∧ j = (cl x).getD (q - 1) 0 then some j else if j = j then (cl x)[q]? else gP τ 5 j) = (cl x)[q]? := by
        rw [if_neg, if_pos rfl]
        intro z
        have := hlt x _ _ hx (hbe z.1)
        omega
      refine ⟨by omega, by omega, hL.trans ?_, h6⟩
      rw [va_up_self, ins_get? _ _ _ hi, if_neg (by omega), if_neg (by omega), Nat.add_sub_cancel]
    · have w := h3 x _ j hx hjc
      refine ⟨w.1, by omega, ?_, w.2.2.2⟩
      by_cases e : x = u
      · subst e
        rw [va_up_self, ins_get? _ _ _ hi]
        by_cases q1 : q < i
        · rw [if_neg (by omega)] at hjc w
          by_cases q2 : q + 1 = i
          · have hje : j = (cl x).getD (i - 1) 0 := by
              have hb2 := hbe (by omega)
              rw [show i - 1 = q by omega] at hb2 ⊢
              rw [hjc] at hb2
              exact Option.some.inj hb2
            rw [if_pos ⟨by omega, hje⟩, if_neg (by omega), if_pos q2]
          · rw [if_neg (fun z => ?_), if_neg (by omega), w.2.2.1, if_pos (by omega)]
            have := h4 x x q (i - 1) j hx hx hjc (by rw [z.2]; exact hbe z.1)
            omega
        · have q3 : i < q := by
            by_cases z : q = i
            · exact absurd ⟨rfl, z⟩ hne
            · omega
          rw [if_pos ⟨rfl, q3⟩] at hjc w
          rw [if_neg (fun z => ?_), if_neg (by omega), w.2.2.1, if_neg (by omega), if_neg (by omega), show q - 1 + 1 = q + 1 - 1 by omega]
          have := h4 x x (q - 1) (i - 1) j hx hx hjc (by rw [z.2]; exact hbe z.1)
          omega
      · rw [if_neg (fun z => e z.1)] at hjc w
        rw [va_up_ne _ _ e, if_neg (fun z => ?_), if_neg (by omega), w.2.2.1]
        have := h4 x u q (i - 1) j hx (by omega) hjc (by rw [z.2]; exact hbe z.1)
        exact e this.1
  · rcases key x q j hx hq with ⟨a1, a2, a3⟩ | ⟨a1, a2, a3⟩
    · rcases key y r j hy hr with ⟨b1, b2, b3⟩ | ⟨b1, b2, b3⟩
      · exact ⟨by rw [a1, b1], by rw [a2, b2]⟩
      · omega
    · rcases key y r j hy hr with ⟨b1, b2, b3⟩ | ⟨b1, b2, b3⟩
      · omega
      · have w := h4 x y _ _ j hx hy a2 b2
        refine ⟨w.1, ?_⟩
        obtain ⟨w1, w2⟩ := w
        subst w1
        by_cases e : x = u
        · have e3 : ¬ q = i := fun z => a3 ⟨e, z⟩
          have e4 : ¬ r = i := fun z => b3 ⟨e, z⟩
          simp only [e, true_and] at w2
          split at w2 <;> split at w2 <;> omega
        · simp only [e, false_and, if_false] at w2; exact w2
  · rw [c5, c6]
    refine ⟨(h5 h0).1, ?_⟩
    rw [if_neg (fun z => ?_), if_neg (by omega)]
    · exact (h5 h0).2
    · have w := h3 u (i - 1) _ (by omega) (hbe z.1)
      omega
def insP (sr : Bool) (m : Nat → Int64) (n : Nat) (l : List Nat) : List Nat := if sr = true then insL m n l else l ++ [n]
