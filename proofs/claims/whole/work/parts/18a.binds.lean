/-- put in its place: behind all whose mark is not above -/
def insL (m : Nat → Int64) (x : Nat) : List Nat → List Nat
  | [] => [x]
  | y :: l => if m x < m y then x :: y :: l else y :: insL m x l
def srt (m : Nat → Int64) (l : List Nat) : List Nat := l.foldl (fun acc x => insL m x acc) []
def SRD (m : Nat → Int64) (l : List Nat) : Prop := l.Pairwise (fun a b => ¬ m b < m a)
theorem l_tr {a b c : Int64} (h1 : ¬ b < a) (h2 : ¬ c < b) : ¬ c < a := by
  rw [Int64.lt_iff_toInt_lt] at *; omega
theorem insL_perm (m : Nat → Int64) (x : Nat) : ∀ (l : List Nat), (insL m x l).Perm (x :: l)
  | [] => List.Perm.refl _
  | y :: l => by
    simp only [insL]; split
    · exact List.Perm.refl _
    · exact ((insL_perm m x l).cons y).trans (List.Perm.swap x y l)
theorem insL_mem {m : Nat → Int64} {x z : Nat} {l : List Nat} (h : z ∈ insL m x l) : z = x ∨ z ∈ l := by
  have := (insL_perm m x l).mem_iff.mp h
  simpa using this
theorem l_as {a b : Int64} (h1 : a < b) : ¬ b < a := by
  rw [Int64.lt_iff_toInt_lt] at *; omega
theorem insL_srd {m : Nat → Int64} {x : Nat} : ∀ {l : List Nat}, SRD m l → SRD m (insL m x l)
  | [], _ => List.pairwise_singleton _ _
  | y :: l, h => by
    have h' := List.pairwise_cons.mp h
    simp only [insL]; split
    · next hx =>
      refine List.pairwise_cons.mpr ⟨fun z hz => ?_, h⟩
      rcases List.mem_cons.mp hz with rfl | hz
      · exact l_as hx
      · exact l_tr (l_as hx) (h'.1 z hz)
    · next hx =>
      refine List.pairwise_cons.mpr ⟨fun z hz => ?_, insL_srd h'.2⟩
      rcases insL_mem hz with rfl | hz
      · exact hx
      · exact h'.1 z hz
theorem srt_aux {m : Nat → Int64} : ∀ (l acc : List Nat), SRD m acc → SRD m (l.foldl (fun acc x => insL m x acc) acc) ∧ (l.foldl (fun acc x => insL m x acc) acc).Perm (acc ++ l)
  | [], acc, h => ⟨h, by simp⟩
  | x :: l, acc, h => by
    obtain ⟨a, b⟩ := srt_aux l (insL m x acc) (insL_srd h)
    refine ⟨a, b.trans ?_⟩
    refine ((insL_perm m x acc).append_right l).trans ?_
    exact (List.perm_middle (a := x) (l₁ := acc) (l₂ := l)).symm
theorem srt_srd (m : Nat → Int64) (l : List Nat) : SRD m (srt m l) := (srt_aux l [] List.Pairwise.nil).1
theorem srt_perm (m : Nat → Int64) (l : List Nat) : (srt m l).Perm l := (srt_aux l [] List.Pairwise.nil).2
theorem srt_len (m : Nat → Int64) (l : List Nat) : (srt m l).length = l.length := (srt_perm m l).length_eq
theorem insL_end {m : Nat → Int64} {x : Nat} : ∀ {l : List Nat}, (∀ y ∈ l, ¬ m x < m y) → insL m x l = l ++ [x]
  | [], _ => rfl
  | y :: l, h => by
    simp only [insL]; rw [if_neg (h y (List.mem_cons_self ..)), insL_end (fun z hz => h z (List.mem_cons_of_mem _ hz))]; rfl
theorem srt_id_aux {m : Nat → Int64} : ∀ (l acc : List Nat), SRD m (acc ++ l) → l.foldl (fun acc x => insL m x acc) acc = acc ++ l
  | [], acc, _ => by simp
  | x :: l, acc, h => by
    have h2 : SRD m ((acc ++ [x]) ++ l) := by simpa using h
    rw [List.foldl_cons, insL_end (fun y hy => (List.pairwise_append.mp h).2.2 y hy x (List.mem_cons_self ..)), srt_id_aux l (acc ++ [x]) h2]; simp
theorem srt_id {m : Nat → Int64} {l : List Nat} (h : SRD m l) : srt m l = l := srt_id_aux l [] h
theorem insL_cong {m m' : Nat → Int64} {x : Nat} : ∀ {l : List Nat}, m x = m' x → (∀ y ∈ l, m y = m' y) → insL m x l = insL m' x l
  | [], _, _ => rfl
  | y :: l, h, h' => by
    simp only [insL]; rw [h, h' y (List.mem_cons_self ..), insL_cong h (fun z hz => h' z (List.mem_cons_of_mem _ hz))]
theorem foldl_ic {α β : Type} {f g : β → α → β} {I : β → Prop} : ∀ (l : List α) (b : β), I b → (∀ b x, x ∈ l → I b → f b x = g b x ∧ I (f b x)) → l.foldl f b = l.foldl g b
  | [], _, _, _ => rfl
  | x :: l, b, hI, h => by
    have q := h b x (List.mem_cons_self ..) hI
    rw [List.foldl_cons, List.foldl_cons, ← q.1]
    exact foldl_ic l (f b x) q.2 (fun b y hy => h b y (List.mem_cons_of_mem _ hy))
theorem srt_cong {m m' : Nat → Int64} {l : List Nat} (h : ∀ y ∈ l, m y = m' y) : srt m l = srt m' l := by
  refine foldl_ic (I := fun acc => ∀ y ∈ acc, m y = m' y) l [] (fun y hy => by cases hy) ?_
  intro b x hx hI
  refine ⟨insL_cong (h x hx) hI, ?_⟩
  intro y hy
  have hy2 : y = x ∨ y ∈ b := insL_mem hy
  exact hy2.elim (fun e => e.symm ▸ h x hx) (hI y)
theorem srt_snoc (m : Nat → Int64) (l : List Nat) (x : Nat) : srt m (l ++ [x]) = insL m x (srt m l) := by simp [srt, List.foldl_append]
theorem insL_pos {m : Nat → Int64} {x : Nat} : ∀ {s : List Nat} {h : Nat}, h ≤ s.length → (∀ i, i < h → ¬ m x < m (s.getD i 0)) → (∀ i, h ≤ i → i < s.length → m x < m (s.getD i 0)) → insL m x s = s.take h ++ x :: s.drop h
  | [], h, hl, _, _ => by
    have : h = 0 := by simpa using hl
    subst this; rfl
  | y :: s, 0, _, _, h2 => by
    have := h2 0 (Nat.le_refl _) (by simp)
    simp only [insL]; rw [if_pos (by simpa using this)]; rfl
  | y :: s, h + 1, hl, h1, h2 => by
    have h0 := h1 0 (by omega)
    simp only [insL]; rw [if_neg (by simpa using h0), insL_pos (h := h) (by simpa using hl) (fun i hi => by have := h1 (i + 1) (by omega); simpa using this) (fun i hi hj => by have := h2 (i + 1) (by omega) (by simpa using hj); simpa using this)]; rfl
theorem ins_getD {s : List Nat} {h x : Nat} (hl : h ≤ s.length) (i : Nat) : (s.take h ++ x :: s.drop h).getD i 0 = if i < h then s.getD i 0 else if i = h then x else s.getD (i - 1) 0 := by
  simp only [List.getD_eq_getElem?_getD]
  by_cases h1 : i < h
  · rw [if_pos h1, List.getElem?_append_left (by simp; omega), List.getElem?_take_of_lt h1]
  · rw [if_neg h1, List.getElem?_append_right (by simp; omega)]
    simp only [List.length_take, Nat.min_eq_left hl]
    by_cases h2 : i = h
    · subst h2; rw [if_pos rfl]; simp
    · rw [if_neg h2, show i - h = (i - 1 - h) + 1 by omega, List.getElem?_cons_succ, List.getElem?_drop, show h + (i - 1 - h) = i - 1 by omega]
theorem hlF_hi (mk : Nat → Int64) (f : Nat → Nat) (lo : Nat) (x : Int64) : ∀ i, (∀ j, hlF mk f lo x i ≤ j → j < i → x < mk (f j)) ∧ (lo < hlF mk f lo x i → ¬ x < mk (f (hlF mk f lo x i - 1)))
  | 0 => ⟨fun j _ h => by omega, fun h => by simp [hlF] at h⟩
  | i + 1 => by
    obtain ⟨a, b⟩ := hlF_hi mk f lo x i
    simp only [hlF]; split
    · next hc =>
      refine ⟨fun j h1 h2 => ?_, b⟩
      by_cases e : j = i
      · subst e; exact hc.2
      · exact a j h1 (by omega)
    · next hc => exact ⟨fun j h1 h2 => by omega, fun h3 h4 => hc ⟨h3, by simpa using h4⟩⟩
theorem srd_getD {m : Nat → Int64} {s : List Nat} (h : SRD m s) {i j : Nat} (hij : i < j) (hj : j < s.length) : ¬ m (s.getD j 0) < m (s.getD i 0) := by
  have := List.pairwise_iff_getElem.mp h i j (by omega) hj hij
  simpa [List.getD_eq_getElem?_getD, List.getElem?_eq_getElem hj, List.getElem?_eq_getElem (show i < s.length by omega)] using this
theorem srtA_spec {m : Nat → Int64} {f : Nat → Nat} {lo : Nat} {l : List Nat} (hf : ∀ i, i < l.length → f (lo + i) = l.getD i 0) : ∀ n, n ≤ l.length → (∀ i, i < n → srtA m f lo n (lo + i) = (srt m (l.take n)).getD i 0) ∧ (∀ j, j < lo ∨ lo + n ≤ j → srtA m f lo n j = f j)
  | 0, _ => ⟨fun i h => by omega, fun _ _ => rfl⟩
  | n + 1, hn => by
    obtain ⟨a, b⟩ := srtA_spec hf n (by omega)
    have hlen : (srt m (l.take n)).length = n := by rw [srt_len]; simp; omega
    have hx : srtA m f lo n (lo + n) = l.getD n 0 := by rw [b _ (Or.inr (Nat.le_refl _)), hf n (by omega)]
    have ht : l.take (n + 1) = l.take n ++ [l.getD n 0] := by
      rw [List.take_succ, List.getD_eq_getElem?_getD, List.getElem?_eq_getElem (show n < l.length by omega)]; rfl
    have e0 : srtA m f lo (n + 1) = va_up (shF (srtA m f lo n) (hlF m (srtA m f lo n) lo (m (l.getD n 0)) (lo + n)) (lo + n)) (hlF m (srtA m f lo n) lo (m (l.getD n 0)) (lo + n)) (l.getD n 0) := by
      rw [srtA, insA, hx]
    have p1 := hlF_ge m (srtA m f lo n) lo (m (l.getD n 0)) (lo + n) (by omega)
    have p2 := hlF_le m (srtA m f lo n) lo (m (l.getD n 0)) (lo + n)
    obtain ⟨p3, p4⟩ := hlF_hi m (srtA m f lo n) lo (m (l.getD n 0)) (lo + n)
    generalize hlF m (srtA m f lo n) lo (m (l.getD n 0)) (lo + n) = h at e0 p1 p2 p3 p4
    have hins : insL m (l.getD n 0) (srt m (l.take n)) = (srt m (l.take n)).take (h - lo) ++ l.getD n 0 :: (srt m (l.take n)).drop (h - lo) := by
      refine insL_pos (by omega) ?_ ?_
      · intro i hi
        have q := p4 (by omega)
        rw [show h - 1 = lo + (h - lo - 1) by omega, a _ (by omega)] at q
        by_cases e : i = h - lo - 1
        · rw [e]; exact q
        · exact l_tr (srd_getD (srt_srd m _) (show i < h - lo - 1 by omega) (by omega)) q
      · intro i h1 h2
        have q := p3 (lo + i) (by omega) (by omega)
        rw [a i (by omega)] at q
        exact q
    refine ⟨fun i hi => ?_, fun j hj => ?_⟩
    · rw [ht, srt_snoc, hins, ins_getD (by omega), e0]
      simp only [va_up, shF]
      by_cases c1 : i < h - lo
      · rw [if_pos c1, if_neg (by omega), if_neg (by omega), a i (by omega)]
      · rw [if_neg c1]
        by_cases c2 : i = h - lo
        · rw [if_pos c2, if_pos (by omega)]
        · rw [if_neg c2, if_neg (by omega), if_pos (by omega), show lo + i - 1 = lo + (i - 1) by omega, a (i - 1) (by omega)]
    · rw [e0]
      simp only [va_up, shF]
      rw [if_neg (by omega), if_neg (by omega)]
      exact b j (by omega)
/-- one more deed -/
def adA (A : Ar) (k : Nat) (v : Int32) (ps : List Nat) : Ar := (aN A + 1, va_up (aK A) (aN A) k, va_up (aV A) (aN A) v, va_up (aP A) (aN A) ps)
abbrev Op : Type := Nat × Int32 × Nat
/-- a deed of the last ones that are loose -/
def bnd (B : Ar × List Nat) (op : Op) : Ar × List Nat := (adA B.1 op.1 op.2.1 (B.2.drop (B.2.length - op.2.2)), B.2.take (B.2.length - op.2.2) ++ [aN B.1])
def bns (ops : List Op) (B : Ar × List Nat) : Ar × List Nat := ops.foldl bnd B
theorem bns_snoc (ops : List Op) (op : Op) (B : Ar × List Nat) : bns (ops ++ [op]) B = bnd (bns ops B) op := by simp [bns, List.foldl_append]
theorem bns_app (o1 o2 : List Op) (B : Ar × List Nat) : bns (o1 ++ o2) B = bns o2 (bns o1 B) := by simp [bns, List.foldl_append]
theorem bns_N : ∀ (ops : List Op) (B : Ar × List Nat), aN (bns ops B).1 = aN B.1 + ops.length
  | [], B => rfl
  | op :: ops, B => by
    show aN (bns ops (bnd B op)).1 = _
    rw [bns_N ops (bnd B op)]
    show aN B.1 + 1 + ops.length = _
    simp; omega
/-- B is A with more deeds behind -/
def EXT (A B : Ar) : Prop := aN A ≤ aN B ∧ ∀ d, d < aN A → aK B d = aK A d ∧ aV B d = aV A d ∧ aP B d = aP A d
theorem EXT.rfl' (A : Ar) : EXT A A := ⟨Nat.le_refl _, fun _ _ => ⟨rfl, rfl, rfl⟩⟩
theorem EXT.ad {A B : Ar} (h : EXT A B) (k : Nat) (v : Int32) (ps : List Nat) : EXT A (adA B k v ps) := by
  refine ⟨by show aN A ≤ aN B + 1; have := h.1; omega, fun d hd => ?_⟩
  have hne : ¬ d = aN B := by have := h.1; omega
  obtain ⟨h1, h2, h3⟩ := h.2 d hd
  refine ⟨?_, ?_, ?_⟩
  · show (if d = aN B then k else aK B d) = _; rw [if_neg hne]; exact h1
  · show (if d = aN B then v else aV B d) = _; rw [if_neg hne]; exact h2
  · show (if d = aN B then ps else aP B d) = _; rw [if_neg hne]; exact h3
theorem tot_ad (A : Ar) (k : Nat) (v : Int32) (ps : List Nat) : tot (aP (adA A k v ps)) (aN (adA A k v ps)) = tot (aP A) (aN A) + ps.length := by
  show tot (va_up (aP A) (aN A) ps) (aN A + 1) = _
  rw [tot, tot_cong (ps := va_up (aP A) (aN A) ps) (qs := aP A) (fun d hd => va_up_ne _ _ (by omega)), show va_up (aP A) (aN A) ps (aN A) = ps from if_pos rfl]
theorem WA.ad {A : Ar} (h : WA A) {k : Nat} {v : Int32} {ps : List Nat} (h1 : aN A < 1500) (h2 : tot (aP A) (aN A) + ps.length ≤ 4000) (hk : k < 12) (hp : ∀ p ∈ ps, p < aN A) : WA (adA A k v ps) := by
  refine ⟨by show aN A + 1 ≤ _; omega, by rw [tot_ad]; exact h2, fun d hd => ?_, fun x p hp' => ?_⟩
  · show (if d = aN A then k else aK A d) < 12
    split
    · exact hk
    · next e => exact h.2.2.1 d (by have : d < aN A + 1 := hd; omega)
  · have hp' : p ∈ (if x = aN A then ps else aP A x) := hp'
    split at hp'
    · next e => rw [e]; exact hp p hp'
    · exact h.lt hp'
/-- deeds that are loose in the class -/
def LSE (S : List Nat) (σ : St) : Prop := gN σ 0 = S.length ∧ ∀ i, i < S.length → gA σ 3 i = S.getD i 0
theorem RCd.bind {A : Ar} {S : List Nat} {σ : St} (h : RCd A σ) (hS : LSE S σ) {k : Nat} {v : Int32} {n : Nat} (hn : n ≤ S.length) : RCd (bnd (A, S) (k, v, n)).1 (dBind σ k v n) ∧ LSE (bnd (A, S) (k, v, n)).2 (dBind σ k v n) := by
  obtain ⟨h1, h2, h3, h4⟩ := h
  obtain ⟨s1, s2⟩ := hS
  have hlen : (S.drop (S.length - n)).length = n := by simp; omega
  have htot : gA σ 1 (gN σ 1) = tot (aP A) (aN A) := by rw [h1, h3 _ (Nat.le_refl _)]
  have e2 : ∀ j, gA (dBind σ k v n) 2 j = if gA σ 1 (gN σ 1) ≤ j ∧ j < gA σ 1 (gN σ 1) + n then gA σ 3 (gN σ 0 - n + (j - gA σ 1 (gN σ 1))) else gA σ 2 j := fun j => rfl
  have hps : ∀ d, aP (bnd (A, S) (k, v, n)).1 d = if d = aN A then S.drop (S.length - n) else aP A d := fun d => rfl
  have htl : ∀ d, d ≤ aN A → tot (aP (bnd (A, S) (k, v, n)).1) d = tot (aP A) d := fun d hd => tot_cong (fun e he => by rw [hps, if_neg (by omega)])
  refine ⟨⟨?_, ?_, ?_, ?_⟩, ?_, ?_⟩
  · show gN σ 1 + 1 = aN A + 1; rw [h1]
  · intro d hd
    have hd : d < aN A + 1 := hd
    constructor
    · show (if d = gN σ 1 then k else gA σ 0 d) = if d = aN A then k else aK A d
      rw [h1]; split
      · rfl
      · exact (h2 d (by omega)).1
    · show (if d = gN σ 1 then v else gJ σ 0 d) = if d = aN A then v else aV A d
      rw [h1]; split
      · rfl
      · exact (h2 d (by omega)).2
  · intro d hd
    have hd : d ≤ aN A + 1 := hd
    show (if d = gN σ 1 + 1 then gA σ 1 (gN σ 1) + n else if d = gN σ 1 + 1 then gA σ 1 (gN σ 1) else gA σ 1 d) = _
    rw [htot, h1]
    by_cases e : d = aN A + 1
    · subst e
      rw [if_pos rfl, tot, htl _ (Nat.le_refl _), hps, if_pos rfl, hlen]
    · rw [if_neg e, if_neg e, h3 d (by omega), htl d (by omega)]
  · intro d hd i hi
    have hd : d < aN A + 1 := hd
    rw [hps] at hi ⊢
    rw [htl d (by omega), e2, htot]
    by_cases e : d = aN A
    · subst e
      rw [if_pos rfl, hlen] at hi
      rw [if_pos rfl, if_pos (by omega), s1, show S.length - n + (tot (aP A) (aN A) + i - tot (aP A) (aN A)) = S.length - n + i by omega, s2 _ (by omega)]
      simp only [List.getD_eq_getElem?_getD, List.getElem?_drop]
    · rw [if_neg e] at hi ⊢
      have q := tot_mono (ps := aP A) (show d + 1 ≤ aN A by omega)
      simp only [tot] at q
      rw [if_neg (by omega)]
      exact h4 d (by omega) i hi
  · show gN σ 0 - n + 1 = (S.take (S.length - n) ++ [aN A]).length
    rw [s1]; simp
  · intro i hi
    have hi : i < (S.take (S.length - n) ++ [aN A]).length := hi
    simp only [List.length_append, List.length_take, List.length_singleton] at hi
    show (if i = gN σ 0 - n then gN σ 1 else gA σ 3 i) = (S.take (S.length - n) ++ [aN A]).getD i 0
    rw [s1, h1]
    simp only [List.getD_eq_getElem?_getD]
    by_cases e : i = S.length - n
    · subst e
      rw [if_pos rfl, List.getElem?_append_right (by simp)]
      simp
    · rw [if_neg e, List.getElem?_append_left (by simp; omega), List.getElem?_take_of_lt (by omega), s2 i (by omega), List.getD_eq_getElem?_getD]
