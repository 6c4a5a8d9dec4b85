/-- WRITTEN: visits and bytes in their order -/
abbrev Ev : Type := (Nat × Nat) ⊕ List Nat
abbrev Es : Type := (List (Nat × Nat) × Int32 × Bool) × (List Nat × Bool)
def hdB (A : Ar) (x : Nat) : List Nat := (97 + aK A x) :: numB (aV A x) ++ (if 0 < (aP A x).length then [40] else [])
def cmB (t : Nat) : List Nat := if 0 < t then [44] else []
def clB (A : Ar) (x : Nat) : List Nat := if 0 < (aP A x).length then [41] else []
def evF (A : Ar) : Nat → Nat → Nat → List Ev
  | 0, _, _ => []
  | f + 1, x, k => .inl (x, k) :: .inr (hdB A x) :: ((aP A x).zipIdx.flatMap (fun q => .inr (cmB q.2) :: evF A f q.1 (k + 1)) ++ [.inr (clB A x)])
def ev (A : Ar) (x k : Nat) : List Ev := evF A (x + 1) x k
def evR (A : Ar) (x t k : Nat) : List Ev := ((aP A x).zipIdx.drop t).flatMap (fun q => .inr (cmB q.2) :: ev A q.1 (k + 1)) ++ [.inr (clB A x)]
theorem zipIdx_mem {l : List Nat} {q : Nat × Nat} (h : q ∈ l.zipIdx) : q.1 ∈ l := by
  obtain ⟨a, i⟩ := q
  exact List.fst_mem_of_mem_zipIdx h
theorem evF_st {A : Ar} (hE : ELD (aP A) id) : ∀ (f x k : Nat), x < f → evF A f x k = ev A x k := by
  have main : ∀ (f g x k : Nat), x < f → x < g → evF A f x k = evF A g x k := by
    intro f
    induction f with
    | zero => intro g x k h; omega
    | succ f ih =>
      intro g x k h1 h2
      cases g with
      | zero => omega
      | succ g =>
        simp only [evF]
        rw [flatMap_cong (fun q hq => by
          have h3 := hE x q.1 (zipIdx_mem hq)
          simp only [id] at h3
          rw [ih g q.1 (k + 1) (by omega) (by omega)])]
  exact fun f x k h => main f (x + 1) x k h (Nat.lt_succ_self _)
theorem ev_eq {A : Ar} (hE : ELD (aP A) id) (x k : Nat) : ev A x k = .inl (x, k) :: .inr (hdB A x) :: evR A x 0 k := by
  rw [ev, evF, evR, List.drop_zero, flatMap_cong (fun q hq => by rw [evF_st hE x q.1 (k + 1) (by have := hE x q.1 (zipIdx_mem hq); simpa using this)])]
theorem evR_end {A : Ar} {x t k : Nat} (h : (aP A x).length ≤ t) : evR A x t k = [.inr (clB A x)] := by
  rw [evR, List.drop_eq_nil_of_le (by simpa using h)]; rfl
theorem evR_go {A : Ar} {x t k p : Nat} (h : (aP A x)[t]? = some p) : evR A x t k = .inr (cmB t) :: (ev A p (k + 1) ++ evR A x (t + 1) k) := by
  obtain ⟨ht, he⟩ := List.getElem?_eq_some_iff.mp h
  rw [evR, List.drop_eq_getElem_cons (by simpa using ht), List.flatMap_cons]
  simp only [List.getElem_zipIdx, he, Nat.zero_add, evR, List.cons_append, List.append_assoc]
def rsE (A : Ar) : List (Nat × Nat) → List Ev
  | [] => []
  | (x, t) :: c => evR A x t (c.length + 1) ++ rsE A c
def stE (bot : Nat) (s : Es) (e : Ev) : Es := match e with
  | .inl x => if s.1.2.2 = true ∨ s.2.2 = true then s else (stp bot (fun _ => false) s.1 x, s.2)
  | .inr L => if s.1.2.2 = true then s else (s.1, (s.2.1 ++ L).take 6000, s.2.2 || decide (6000 < s.2.1.length + L.length))
def runE (bot : Nat) (L : List Ev) (s : Es) : Es := L.foldl (stE bot) s
theorem runE_cons (bot : Nat) (e : Ev) (L : List Ev) (s : Es) : runE bot (e :: L) s = runE bot L (stE bot s e) := rfl
theorem runE_app (bot : Nat) (L M : List Ev) (s : Es) : runE bot (L ++ M) s = runE bot M (runE bot L s) := List.foldl_append ..
theorem runE_halt {bot : Nat} : ∀ (L : List Ev) {s : Es}, s.1.2.2 = true → runE bot L s = s
  | [], _, _ => rfl
  | e :: L, s, h => by
    have : stE bot s e = s := by cases e <;> simp [stE, h]
    rw [runE_cons, this]; exact runE_halt L h
theorem runE_full {bot : Nat} : ∀ (L : List Ev) {s : Es}, s.2.2 = true → s.2.1.length = 6000 → runE bot L s = s
  | [], _, _, _ => rfl
  | e :: L, s, h, hl => by
    have : stE bot s e = s := by
      cases e with
      | inl x => simp [stE, h]
      | inr M =>
        simp only [stE]; split
        · rfl
        · rw [List.take_append_of_le_length (by omega), List.take_of_length_le (by omega)]
          exact Prod.ext rfl (Prod.ext rfl (by simp [h]))
    rw [runE_cons, this]; exact runE_full L h hl
theorem runE_mx {bot : Nat} : ∀ (L : List Ev) {s : Es}, mxD s.1.1 ≤ bot → mxD (runE bot L s).1.1 ≤ bot
  | [], _, h => h
  | e :: L, s, h => by
    rw [runE_cons]
    refine runE_mx L ?_
    cases e with
    | inl x => simp only [stE]; split
               · exact h
               · exact stp_mx h
    | inr M => simp only [stE]; split <;> exact h
/-- the draft holds these bytes -/
def DRF (b : List Nat × Bool) (σ : St) : Prop := gN σ 3 = b.1.length ∧ b.1.length ≤ 6000 ∧ (∀ i, i < b.1.length → gA σ 13 i = b.1.getD i 0) ∧ gB σ 1 = b.2 ∧ (b.2 = true → b.1.length = 6000)
theorem DRF.add {b : List Nat × Bool} {σ : St} (h : DRF b σ) (L : List Nat) : DRF ((b.1 ++ L).take 6000, b.2 || decide (6000 < b.1.length + L.length)) (pAdds σ L) := by
  obtain ⟨h1, h2, h3, h4, h5⟩ := h
  refine ⟨?_, by simp; omega, ?_, ?_, ?_⟩
  · show min 6000 (gN σ 3 + L.length) = _
    rw [h1]; simp
  · intro i hi
    simp only [List.length_take, List.length_append] at hi
    show (if gN σ 3 ≤ i ∧ i < gN σ 3 + L.length ∧ i < 6000 then L.getD (i - gN σ 3) 0 else gA σ 13 i) = _
    rw [h1]
    simp only [List.getD_eq_getElem?_getD]
    rw [List.getElem?_take_of_lt (by omega)]
    by_cases q : i < b.1.length
    · rw [if_neg (by omega), List.getElem?_append_left q, h3 i q, List.getD_eq_getElem?_getD]
    · rw [if_pos (by omega), List.getElem?_append_right (by omega)]
  · show (gB σ 1 || decide (6000 < gN σ 3 + L.length)) = _
    rw [h1, h4]
  · intro ho
    simp only [Bool.or_eq_true, decide_eq_true_eq] at ho
    simp only [List.length_take, List.length_append]
    rcases ho with ho | ho
    · have := h5 ho; omega
    · omega
theorem DRF.full {b : List Nat × Bool} {σ : St} (h : DRF b σ) (ho : b.2 = true) (L : List Nat) : pAdds σ L = σ := by
  obtain ⟨h1, h2, h3, h4, h5⟩ := h
  have hl : gN σ 3 = 6000 := by rw [h1]; exact h5 ho
  have e1 : putsF (gA σ 13) (gN σ 3) L = gA σ 13 := by funext j; simp only [putsF]; rw [if_neg (by omega)]
  have e2 : min 6000 (gN σ 3 + L.length) = gN σ 3 := by omega
  have e3 : (gB σ 1 || decide (6000 < gN σ 3 + L.length)) = gB σ 1 := by rw [h4, ho]; rfl
  show sB (sN (sA σ 13 (putsF (gA σ 13) (gN σ 3) L)) 3 (min 6000 (gN σ 3 + L.length))) 1 (gB σ 1 || decide (6000 < gN σ 3 + L.length)) = σ
  rw [e1, e2, e3, sA_self, sN_self, sB_self]
theorem DRF.halt {b : List Nat × Bool} {σ : St} (h : DRF b σ) (h12 : gN σ 12 = 26) (w : Int32) : DRF b (halt σ w) := ⟨h.1, h.2.1, h.2.2.1, by show (if 1 = gN σ 12 then true else gB σ 1) = _; rw [if_neg (by omega)]; exact h.2.2.2.1, h.2.2.2.2⟩
theorem DRF.vis {b : List Nat × Bool} {σ : St} (h : DRF b σ) (k d : Nat) : DRF b (visPre σ k d) := h
theorem RW.pads {X : Type} {s : List (X × Nat) × Int32 × Bool} {σ : St} (h : RW s σ) (L : List Nat) : RW s (pAdds σ L) := h
theorem kp_vis (σ : St) (k d : Nat) : kp (visPre σ k d) = kp σ := rfl
theorem kp_pads (σ : St) (L : List Nat) : kp (pAdds σ L) = kp σ := rfl
theorem ovr26 {σ : St} (h : gN σ 12 = 26) : ovr σ = gB σ 26 := by rw [ovr, h]
def JW (A : Ar) (K : St) (bot r : Nat) (F : Es) (c : List (Nat × Nat)) (s : Es) (σ : St) : Prop :=
  gN σ 12 = 26 ∧ gN σ 13 = bot ∧ ovr σ = false ∧ kp σ = kp K ∧ RW s.1 σ ∧ s.1.2.2 = false ∧ DRF s.2 σ ∧ FRM id (UA A) (nA A) c (gA σ 6) (gA σ 7) ∧ DCh id r c ∧ c.length ≤ mxD s.1.1 ∧ mxD s.1.1 ≤ r + 1 ∧ runE bot (rsE A c) s = F
def JH (A : Ar) (K : St) (r : Nat) (F : Es) (c : List (Nat × Nat)) (σ : St) : Prop :=
  gN σ 12 = 26 ∧ kp σ = kp K ∧ FRM id (UA A) (nA A) c (gA σ 6) (gA σ 7) ∧ DCh id r c ∧ RW F.1 σ ∧ DRF F.2 σ
set_option maxHeartbeats 2000000 in
theorem walk_26 {A : Ar} {K : St} {bot r : Nat} {F : Es} (hA : WA A) (hK : RCd A K) (hbot : bot < 1501) (hr : r < 1500) :
    ∀ (d : Nat) (s : Es) (σ : St), JW A K bot r F [(d, 0)] s σ → OKw 1 d 0 σ ∧ (gN (wlk 1 d 0 σ) 12 = 26 ∧ kp (wlk 1 d 0 σ) = kp K ∧ RW F.1 (wlk 1 d 0 σ) ∧ DRF F.2 (wlk 1 d 0 σ)) := by
  have hR : ∀ ρ, kp ρ = kp K → RCd A ρ := fun ρ e => hK.ofk e
  have h26 : isT 26 := by simp [isT]
  have R := wlk_rule
    (fun c σ => ∃ s, JW A K bot r F c s σ)
    (fun d c σ => UA A d ∧ ∃ s, JW A K bot r F c s σ)
    (fun c σ => JH A K r F c σ)
    ?_ ?_ ?_ ?_ ?_
  · intro d s σ hJ
    obtain ⟨r1, r2, r3⟩ := R 1 d 0 σ [] rfl ⟨s, hJ⟩
    refine ⟨r1, ?_⟩
    rcases ho : ovr (wlk 1 d 0 σ) with _ | _
    · obtain ⟨_, s', q1, _, _, q4, q5, _, q7, _, _, _, _, q12⟩ := r3 ho
      have q12 : s' = F := q12
      subst q12
      exact ⟨q1, q4, q5, q7⟩
    · obtain ⟨q1, q2, _, _, q5, q6⟩ := r2 ho
      exact ⟨q1, q2, q5, q6⟩
  · intro d t c σ ⟨s, hJ⟩
    obtain ⟨q1, q2, q3, q4, q5, q6, q7, ⟨q8a, q8b, q8c, q8d, q8e⟩, ⟨q9a, q9b⟩, q10, q11, q12⟩ := hJ
    simp only [id] at q9a
    exact ⟨by rw [q1]; exact h26, by omega, (hR σ q4).okd hA q8a, q8c, q8d, q3⟩
  · intro d t c σ ⟨s, hJ⟩ hn
    obtain ⟨q1, q2, q3, q4, q5, q6, q7, ⟨q8a, q8b, q8c, q8d, q8e⟩, ⟨q9a, q9b⟩, q10, q11, q12⟩ := hJ
    simp only [id] at q9a
    rw [(hR σ q4).np q8a] at hn
    have eL : tLeave σ (c.length + 1) d = pAdds σ (clB A d) := by rw [tLeave_26 q1, tL26, (hR σ q4).np q8a]; rfl
    refine ⟨⟨by omega, (hR σ q4).okd hA q8a, fun _ => by rw [q7.1]; exact q7.2.1, fun h => by omega⟩, q8a, (s.1, (s.2.1 ++ clB A d).take 6000, s.2.2 || decide (6000 < s.2.1.length + (clB A d).length)), ?_⟩
    have hst : stE bot s (.inr (clB A d)) = (s.1, (s.2.1 ++ clB A d).take 6000, s.2.2 || decide (6000 < s.2.1.length + (clB A d).length)) := by simp only [stE]; rw [if_neg (by rw [q6]; decide)]
    rw [eL]
    refine ⟨q1, q2, by rw [ovr26 (show gN (pAdds σ (clB A d)) 12 = 26 from q1)]; rw [ovr26 q1] at q3; exact q3, q4, q5, q6, q7.add _, q8e, q9b, by show c.length ≤ mxD s.1.1; simp only [List.length_cons] at q10; omega, q11, ?_⟩
    rw [← q12, rsE, evR_end (by omega), List.singleton_append, runE_cons, hst]
  · intro d t c σ ⟨s, hJ⟩ hn
    obtain ⟨q1, q2, q3, q4, q5, q6, q7, ⟨q8a, q8b, q8c, q8d, q8e⟩, ⟨q9a, q9b⟩, q10, q11, q12⟩ := hJ
    simp only [id] at q9a
    have hn0 := hn
    rw [(hR σ q4).np q8a] at hn
    obtain ⟨p, hp⟩ : ∃ p, (aP A d)[t]? = some p := ⟨_, List.getElem?_eq_getElem hn⟩
    have n12 : gN (nxt1 σ (c.length + 1) t) 12 = 26 := q1
    have en : kp (nxt1 σ (c.length + 1) t) = kp K := q4
    have eS : tChS (nxt1 σ (c.length + 1) t) (c.length + 1) d t = tC26 (nxt1 σ (c.length + 1) t) t := by simp [tChS, n12]
    have eR : tChR (nxt1 σ (c.length + 1) t) (c.length + 1) d t = tC26r (nxt1 σ (c.length + 1) t) d t := by simp [tChR, n12]
    have hD1 : DRF ((s.2.1 ++ cmB t).take 6000, s.2.2 || decide (6000 < s.2.1.length + (cmB t).length)) (pAdds (nxt1 σ (c.length + 1) t) (cmB t)) := DRF.add (σ := nxt1 σ (c.length + 1) t) q7 (cmB t)
    have hst : stE bot s (.inr (cmB t)) = (s.1, (s.2.1 ++ cmB t).take 6000, s.2.2 || decide (6000 < s.2.1.length + (cmB t).length)) := by simp only [stE]; rw [if_neg (by rw [q6]; decide)]
    have hD2 : DRF ((s.2.1 ++ cmB t).take 6000, s.2.2 || decide (6000 < s.2.1.length + (cmB t).length)) (tC26 (nxt1 σ (c.length + 1) t) t) := hD1
    have e26 : gB (tC26 (nxt1 σ (c.length + 1) t) t) 26 = (s.2.2 || decide (6000 < s.2.1.length + (cmB t).length)) := hD1.2.2.2.1
    rw [rsE, evR_go hp, List.cons_append, runE_cons, hst, List.append_assoc] at q12
    rw [eS, eR]
    have c12 : gN (tC26 (nxt1 σ (c.length + 1) t) t) 12 = 26 := q1
    have ck : kp (tC26 (nxt1 σ (c.length + 1) t) t) = kp K := q4
    have hFl : FRM id (UA A) (nA A) c (gA σ 6) (va_up (gA σ 7) (c.length + 1) (t + 1)) := q8e.up (fun j hj => ⟨rfl, if_neg (by omega)⟩)
    have hRW : RW s.1 (tC26 (nxt1 σ (c.length + 1) t) t) := q5
    refine ⟨⟨by omega, (hR _ en).okd hA q8a, hn0, fun h => by omega, fun _ => by rw [show gN (nxt1 σ (c.length + 1) t) 3 = s.2.1.length from q7.1]; exact q7.2.1⟩, fun hno => ?_, fun p' hp' => ?_⟩
    · have ho : (s.2.2 || decide (6000 < s.2.1.length + (cmB t).length)) = true := by
        rw [tC26r] at hno
        rcases hz : (s.2.2 || decide (6000 < s.2.1.length + (cmB t).length)) with _ | _
        · rw [show gB (pAdds (nxt1 σ (c.length + 1) t) (if 0 < t then [44] else [])) 1 = false from hD1.2.2.2.1.trans hz, if_neg (by decide), (hR _ en).pr q8a, hp] at hno
          cases hno
        · rfl
      have hF : F = (s.1, (s.2.1 ++ cmB t).take 6000, s.2.2 || decide (6000 < s.2.1.length + (cmB t).length)) := by
        rw [← q12]; exact runE_full _ ho (hD1.2.2.2.2 ho)
      have eL : tLeave (tC26 (nxt1 σ (c.length + 1) t) t) (c.length + 1) d = tC26 (nxt1 σ (c.length + 1) t) t := by rw [tLeave_26 c12, tL26]; exact hD2.full ho _
      refine ⟨⟨by omega, (hR _ ck).okd hA q8a, fun _ => by rw [hD2.1]; exact hD2.2.1, fun h => by omega⟩, fun _ => ⟨q1, eL, ?_⟩, fun h => ?_⟩
      · rw [eL]
        exact ⟨c12, ck, hFl, q9b, by rw [hF]; exact hRW, by rw [hF]; exact hD2⟩
      · rw [ovr, c12, e26, ho] at h; cases h
    · have ho : (s.2.2 || decide (6000 < s.2.1.length + (cmB t).length)) = false := by
        rcases hz : (s.2.2 || decide (6000 < s.2.1.length + (cmB t).length)) with _ | _
        · rfl
        · rw [tC26r, show gB (pAdds (nxt1 σ (c.length + 1) t) (if 0 < t then [44] else [])) 1 = true from hD1.2.2.2.1.trans hz, if_pos rfl] at hp'
          cases hp'
      have hpp : p' = p := by
        rw [tC26r, show gB (pAdds (nxt1 σ (c.length + 1) t) (if 0 < t then [44] else [])) 1 = false from hD1.2.2.2.1.trans ho, if_neg (by decide), (hR _ en).pr q8a, hp] at hp'
        exact (Option.some.inj hp').symm
      subst hpp
      have hlt : p' < d := hA.lt (List.mem_of_getElem? hp)
      have hUp : UA A p' := UA.up hA q8a (List.mem_of_getElem? hp)
      have co : ovr (tC26 (nxt1 σ (c.length + 1) t) t) = false := by rw [ovr, c12, e26, ho]
      rw [ho] at hD2 q12
      rw [ev_eq hA.eld, List.cons_append, List.cons_append, runE_cons] at q12
      have e9 : gN (tC26 (nxt1 σ (c.length + 1) t) t) 9 = s.1.1.length := q5.1
      have e13 : gN (tC26 (nxt1 σ (c.length + 1) t) t) 13 = bot := q2
      have e10 : gN (tC26 (nxt1 σ (c.length + 1) t) t) 10 = mxD s.1.1 := q5.2.1
      have hv1 : stE bot (s.1, (s.2.1 ++ cmB t).take 6000, false) (.inl (p', c.length + 1 + 1)) = (stp bot (fun _ => false) s.1 (p', c.length + 2), (s.2.1 ++ cmB t).take 6000, false) := by simp only [stE]; rw [if_neg (by rw [q6]; decide)]
      rw [hv1] at q12
      have hF1 : FRM id (UA A) (nA A) ((d, t + 1) :: c) (gA (tC26 (nxt1 σ (c.length + 1) t) t) 6) (gA (tC26 (nxt1 σ (c.length + 1) t) t) 7) := ⟨q8a, hn, q8c, if_pos rfl, hFl⟩
      have hDC : DCh id r ((d, t + 1) :: c) := ⟨q9a, q9b⟩
      have v12 : gN (visPre (tC26 (nxt1 σ (c.length + 1) t) t) (c.length + 2) p') 12 = 26 := q1
      have vk : kp (visPre (tC26 (nxt1 σ (c.length + 1) t) t) (c.length + 2) p') = kp K := (kp_vis _ _ _).trans ck
      refine ⟨hlt, ⟨by rw [c12]; exact h26, by rw [e9]; exact q5.2.2.2.2.2, by rw [e13]; exact hbot, by rw [e10]; omega, by omega, fun _ _ => ⟨?_, by omega, (hR _ vk).okd hA hUp, fun h => by omega, fun _ => ?_, fun h => by omega⟩⟩, co, ?_, ?_⟩
      · have := q5.2.2.2.2.1 (c.length + 2)
        show gA σ 8 (c.length + 2) < _
        omega
      · show gN (tC26 (nxt1 σ (c.length + 1) t) t) 3 ≤ 6000
        rw [hD2.1]; exact hD2.2.1
      · intro h
        rw [visS] at h ⊢
        by_cases z1 : gN (tC26 (nxt1 σ (c.length + 1) t) t) 9 = 20000
        · rw [if_pos z1]
          have hs : stp bot (fun _ => false) s.1 (p', c.length + 2) = (s.1.1, -5, true) := by rw [stp, if_neg (by rw [q6]; decide), if_pos (by rw [← e9]; exact z1)]
          rw [hs, runE_halt _ rfl] at q12
          subst q12
          exact ⟨c12, ck, hF1, hDC, hRW.halt _, hD2.halt c12 _⟩
        · rw [if_neg z1] at h ⊢
          by_cases z2 : gN (tC26 (nxt1 σ (c.length + 1) t) t) 13 < c.length + 2
          · rw [if_pos z2]
            have hs : stp bot (fun _ => false) s.1 (p', c.length + 2) = (s.1.1, -6, true) := by rw [stp, if_neg (by rw [q6]; decide), if_neg (by rw [← e9]; exact z1), if_pos (by rw [← e13]; exact z2)]
            rw [hs, runE_halt _ rfl] at q12
            subst q12
            exact ⟨c12, ck, hF1, hDC, hRW.halt _, hD2.halt c12 _⟩
          · rw [if_neg z2, tEnter_26 v12, ovr26 (show gN (tE26 (visPre (tC26 (nxt1 σ (c.length + 1) t) t) (c.length + 2) p') p') 12 = 26 from q1)] at h
            rw [ovr26 c12] at co
            have h : gB (tC26 (nxt1 σ (c.length + 1) t) t) 26 = true := h
            rw [co] at h; cases h
      · intro h
        rw [visS] at h ⊢
        by_cases z1 : gN (tC26 (nxt1 σ (c.length + 1) t) t) 9 = 20000
        · rw [if_pos z1, ovr_halt] at h; cases h
        · rw [if_neg z1] at h ⊢
          by_cases z2 : gN (tC26 (nxt1 σ (c.length + 1) t) t) 13 < c.length + 2
          · rw [if_pos z2, ovr_halt] at h; cases h
          · rw [if_neg z2]
            have hl : s.1.1.length < 20000 := by have := q5.2.2.2.2.2; omega
            have hs : stp bot (fun _ => false) s.1 (p', c.length + 2) = (s.1.1 ++ [(p', c.length + 2)], s.1.2.1, false) := by rw [stp, if_neg (by rw [q6]; decide), if_neg (by rw [← e9]; exact z1), if_neg (by rw [← e13]; exact z2)]
            rw [hs, runE_cons] at q12
            have eE : tEnter (visPre (tC26 (nxt1 σ (c.length + 1) t) t) (c.length + 2) p') (c.length + 2) p' = pAdds (visPre (tC26 (nxt1 σ (c.length + 1) t) t) (c.length + 2) p') (hdB A p') := by
              rw [tEnter_26 v12, tE26, ((hR _ vk).2.1 p' hUp).1, ((hR _ vk).2.1 p' hUp).2, (hR _ vk).np hUp]; rfl
            rw [eE]
            have hst2 : stE bot ((s.1.1 ++ [(p', c.length + 2)], s.1.2.1, false), (s.2.1 ++ cmB t).take 6000, false) (.inr (hdB A p')) = ((s.1.1 ++ [(p', c.length + 2)], s.1.2.1, false), ((s.2.1 ++ cmB t).take 6000 ++ hdB A p').take 6000, false || decide (6000 < ((s.2.1 ++ cmB t).take 6000).length + (hdB A p').length)) := by simp only [stE]; rw [if_neg (by decide)]
            rw [hst2] at q12
            have hRv := hRW.vis (k := c.length + 2) (d := p') (x := p') (b := false) (by omega) (by simp only [List.length_cons] at q10; omega) hl
            refine ⟨((s.1.1 ++ [(p', c.length + 2)], s.1.2.1, false), _), q1, q2, by rw [ovr26 (show gN (pAdds (visPre (tC26 (nxt1 σ (c.length + 1) t) t) (c.length + 2) p') (hdB A p')) 12 = 26 from q1)]; rw [ovr26 c12] at co; exact co, (kp_pads _ _).trans ((kp_vis _ _ _).trans ck), hRv.pads _, rfl, (hD2.vis (c.length + 2) p').add (hdB A p'), ?_, ⟨by simp only [id, List.length_cons]; omega, hDC⟩, ?_, ?_, q12⟩
            · exact ⟨hUp, Nat.zero_le _, if_pos rfl, if_pos rfl, hF1.up (fun j hj => ⟨if_neg (by simp only [List.length_cons] at hj ⊢; omega), if_neg (by simp only [List.length_cons] at hj ⊢; omega)⟩)⟩
            · simp only [mxD_snoc, List.length_cons] at q10 ⊢; omega
            · simp only [mxD_snoc]; omega
  · intro d t c σ p ⟨hUp, s, hJ⟩ ho
    have hJ0 := hJ
    obtain ⟨q1, q2, q3, q4, q5, q6, q7, ⟨q8a, q8b, q8c, q8d, q8e⟩, ⟨q9a, q9b⟩, q10, q11, q12⟩ := hJ
    simp only [id] at q9a
    rw [tTake_no (by omega) (by omega) (by omega)]
    exact ⟨⟨by omega, (hR _ q4).okd hA q8a, by rw [(hR _ q4).np q8a]; exact q8b⟩, q8c, q8d, s, hJ0⟩
  · intro d t c σ ⟨z1, z2, ⟨q8a, q8b, q8c, q8d, q8e⟩, ⟨q9a, q9b⟩, z5, z6⟩
    simp only [id] at q9a
    exact ⟨⟨by omega, (hR _ z2).okd hA q8a, by rw [(hR _ z2).np q8a]; exact q8b⟩, q8c, q8d, z1, z2, q8e, q9b, z5, z6⟩
theorem go_26 {A : Ar} {σ : St} {d : Nat} (hG : RG A σ) (hd : d < aN A) (h3 : gN σ 3 = 0) (hb1 : gB σ 1 = false) : preG σ 26 d ∧ RW (runE (goB σ) (ev A d 1) (([], 0, false), ([], false))).1 (goW σ 26 d) ∧ DRF (runE (goB σ) (ev A d 1) (([], 0, false), ([], false))).2 (goW σ 26 d) ∧ kp (goW σ 26 d) = kp σ := by
  obtain ⟨g1, hA, g3, g4, g5, g6⟩ := hG
  have hb : 1 ≤ goB σ := by simp only [goB]; split <;> omega
  have hb2 : goB σ < 1501 := by simp only [goB]; split <;> omega
  have h26 : isT 26 := by simp [isT]
  have hx : d < 1500 := by have := hA.1; omega
  have g13 : gN (goS σ 26) 13 = goB σ := rfl
  have g9 : gN (goS σ 26) 9 = 0 := rfl
  have hR0 : RW (([], 0, false) : List (Nat × Nat) × Int32 × Bool) (goS σ 26) := ⟨rfl, rfl, rfl, fun k k1 k2 => by simp [mxD] at k2; omega, g6, by simp⟩
  have hR1 : RW (([(d, 1)], 0, false) : List (Nat × Nat) × Int32 × Bool) (visPre (goS σ 26) 1 d) := hR0.vis (x := d) (b := false) (Nat.le_refl _) (by simp [mxD]) (by simp)
  have v12 : gN (visPre (goS σ 26) 1 d) 12 = 26 := rfl
  have vR : RCd A (visPre (goS σ 26) 1 d) := g1.ofk rfl
  have hv : visS (goS σ 26) 1 d = pAdds (visPre (goS σ 26) 1 d) (hdB A d) := by
    rw [visS, if_neg (by rw [g9]; decide), if_neg (by rw [g13]; omega), tEnter_26 v12, tE26, (vR.2.1 d hd).1, (vR.2.1 d hd).2, vR.np hd]; rfl
  have hD0 : DRF ([], false) (visPre (goS σ 26) 1 d) := ⟨h3, by simp, fun i hi => by simp at hi, hb1, fun h => by cases h⟩
  have hD1 := hD0.add (hdB A d)
  have hpV : preV (goS σ 26) 1 d := ⟨h26, by rw [g9]; omega, by rw [g13]; exact hb2, by show 0 < _; decide, by omega, fun _ _ => ⟨Nat.lt_of_le_of_lt (g6 1) (by decide), by decide, vR.okd hA hd, fun h => by rw [v12] at h; omega, fun _ => by show gN σ 3 ≤ 6000; omega, fun h => by rw [v12] at h; omega⟩⟩
  have hs : stE (goB σ) (([], 0, false), ([], false)) (.inl (d, 1)) = (([(d, 1)], 0, false), ([], false)) := by
    simp only [stE, stp]; rw [if_neg (by simp), if_neg (by simp), if_neg (by simp), if_neg (by show ¬ goB σ < 1; omega)]; rfl
  have hs2 : stE (goB σ) (([(d, 1)], 0, false), ([], false)) (.inr (hdB A d)) = (([(d, 1)], 0, false), (([] ++ hdB A d).take 6000, false || decide (6000 < ([] : List Nat).length + (hdB A d).length))) := by
    simp only [stE]; rw [if_neg (by decide)]
  have hF : runE (goB σ) (ev A d 1) (([], 0, false), ([], false)) = runE (goB σ) (rsE A [(d, 0)]) (([(d, 1)], 0, false), (([] ++ hdB A d).take 6000, false || decide (6000 < ([] : List Nat).length + (hdB A d).length))) := by
    rw [ev_eq hA.eld, runE_cons, runE_cons, hs, hs2, rsE, rsE, List.append_nil]; rfl
  have hJ : JW A σ (goB σ) d (runE (goB σ) (ev A d 1) (([], 0, false), ([], false))) [(d, 0)] (([(d, 1)], 0, false), (([] ++ hdB A d).take 6000, false || decide (6000 < ([] : List Nat).length + (hdB A d).length))) (pAdds (visPre (goS σ 26) 1 d) (hdB A d)) :=
    ⟨rfl, g13, rfl, rfl, hR1.pads _, rfl, hD1, ⟨hd, Nat.zero_le _, rfl, rfl, trivial⟩, ⟨by simp, trivial⟩, by simp [mxD], by simp [mxD], hF.symm⟩
  obtain ⟨r1, r2, r3, r4, r5⟩ := walk_26 hA g1 hb2 hx d _ _ hJ
  have hgo : goW σ 26 d = wlk 1 d 0 (pAdds (visPre (goS σ 26) 1 d) (hdB A d)) := by
    rw [goW, hv, if_neg (by show ¬ (false = true); decide)]
  rw [preG, hgo, hv]
  exact ⟨⟨h26, g3, g4, g5, hpV, fun _ => r1, by rw [r4.2.1]; have hm := runE_mx (bot := goB σ) (ev A d 1) (s := (([], 0, false), ([], false))) (by simp [mxD]); omega⟩, r4, r5, r3⟩
