/-- WORTH: the parts that are looked at -/
def tkU (w : Nat → Int64) : List Nat → List Nat
  | [] => []
  | p :: l => if w p = lN 0 then p :: tkU w l else [p]
def ch7 (w : Nat → Int64) : List Nat → List Nat
  | [] => []
  | [p] => [p]
  | p :: q :: r => [p, (q :: r).getD (fmodN (w p) (q :: r).length) 0]
def wlO (kd : Nat) (ps : List Nat) (w : Nat → Int64) : List Nat := if kd = 0 then [] else if kd = 7 then ch7 w ps else if kd = 8 then tkU w ps else ps
theorem tkU_mem {w : Nat → Int64} : ∀ {l : List Nat} {p : Nat}, p ∈ tkU w l → p ∈ l
  | [], _, h => h
  | q :: l, p, h => by
    simp only [tkU] at h
    split at h
    · rcases List.mem_cons.mp h with rfl | h
      · exact List.mem_cons_self ..
      · exact List.mem_cons_of_mem _ (tkU_mem h)
    · rw [List.mem_singleton] at h; rw [h]; exact List.mem_cons_self ..
theorem tkU_len {w : Nat → Int64} : ∀ (l : List Nat), (tkU w l).length ≤ l.length
  | [] => Nat.le_refl _
  | q :: l => by
    simp only [tkU]; split
    · have := tkU_len (w := w) l; simp; omega
    · simp
theorem tkU_cong {w w' : Nat → Int64} : ∀ {l : List Nat}, (∀ p ∈ l, w p = w' p) → tkU w l = tkU w' l
  | [], _ => rfl
  | q :: l, h => by
    simp only [tkU]
    rw [h q (List.mem_cons_self ..), tkU_cong (fun p hp => h p (List.mem_cons_of_mem _ hp))]
theorem tkU_0 (w : Nat → Int64) : ∀ (l : List Nat), (tkU w l)[0]? = l[0]?
  | [] => rfl
  | q :: l => by simp only [tkU]; split <;> rfl
theorem tkU_next {w : Nat → Int64} : ∀ {l : List Nat} {t p : Nat}, (tkU w l)[t]? = some p → (tkU w l)[t + 1]? = if w p = lN 0 then l[t + 1]? else none
  | [], t, p, h => by simp [tkU] at h
  | q :: l, t, p, h => by
    simp only [tkU] at h ⊢
    by_cases hq : w q = lN 0
    · rw [if_pos hq] at h ⊢
      cases t with
      | zero =>
        simp at h; subst h
        rw [if_pos hq]
        simp only [Nat.zero_add, List.getElem?_cons_succ]; exact tkU_0 w l
      | succ t =>
        simp only [List.getElem?_cons_succ] at h ⊢
        exact tkU_next h
    · rw [if_neg hq] at h ⊢
      cases t with
      | zero => simp at h; subst h; rw [if_neg hq]; rfl
      | succ t => simp at h
theorem ch7_mem {w : Nat → Int64} {l : List Nat} {p : Nat} (h : p ∈ ch7 w l) : p ∈ l := by
  rcases l with _ | ⟨a, _ | ⟨b, r⟩⟩
  · exact h
  · exact h
  · simp only [ch7, List.mem_cons, List.not_mem_nil, or_false] at h
    rcases h with rfl | rfl
    · exact List.mem_cons_self ..
    · have hf := fmodN_lt (w a) (show 0 < (b :: r).length by simp)
      refine List.mem_cons_of_mem _ ?_
      rw [List.getD_eq_getElem?_getD, List.getElem?_eq_getElem hf]
      exact List.getElem_mem _
theorem wlO_mem {kd : Nat} {ps : List Nat} {w : Nat → Int64} {p : Nat} (h : p ∈ wlO kd ps w) : p ∈ ps := by
  simp only [wlO] at h
  split at h
  · cases h
  · split at h
    · exact ch7_mem h
    · split at h
      · exact tkU_mem h
      · exact h
theorem wlO_len (kd : Nat) (ps : List Nat) (w : Nat → Int64) : (wlO kd ps w).length ≤ ps.length := by
  simp only [wlO]; split
  · simp
  · split
    · rcases ps with _ | ⟨a, _ | ⟨b, r⟩⟩ <;> simp [ch7]
    · split
      · exact tkU_len _
      · exact Nat.le_refl _
theorem wlO_cong {kd : Nat} {ps : List Nat} {w w' : Nat → Int64} (h : ∀ p ∈ ps, w p = w' p) : wlO kd ps w = wlO kd ps w' := by
  have e7 : ch7 w ps = ch7 w' ps := by
    rcases ps with _ | ⟨a, _ | ⟨b, r⟩⟩
    · rfl
    · rfl
    · simp only [ch7]; rw [h a (List.mem_cons_self ..)]
  simp only [wlO]; rw [e7, tkU_cong h]
/-- what a deed comes to, from what its parts came to -/
def wAcc (kd : Nat) (v : Int32) (n : Nat) (ws : List Int64) : Int64 :=
  if kd = 9 then (if ws.all (fun w => decide (w = ws.headD 0)) = true then lN 1 else lN 0) else (ws.foldl (fun (s : Nat × Int64) w => (s.1 + 1, wUp kd v s.1 s.2 w)) (0, wInit kd v n)).2
theorem wFo_len (kd : Nat) (v : Int32) : ∀ (ws : List Int64) (s : Nat × Int64), (ws.foldl (fun (s : Nat × Int64) w => (s.1 + 1, wUp kd v s.1 s.2 w)) s).1 = s.1 + ws.length
  | [], s => rfl
  | w :: ws, s => by rw [List.foldl_cons, wFo_len kd v ws]; simp; omega
theorem wAcc_snoc {kd : Nat} (h : ¬ kd = 9) (v : Int32) (n : Nat) (ws : List Int64) (w : Int64) : wAcc kd v n (ws ++ [w]) = wUp kd v ws.length (wAcc kd v n ws) w := by
  simp only [wAcc, if_neg h, List.foldl_append, List.foldl_cons, List.foldl_nil]
  rw [wFo_len]; simp
theorem wAcc_nil (kd : Nat) (v : Int32) (n : Nat) : wAcc kd v n [] = wInit kd v n := by
  by_cases h : kd = 9
  · subst h; simp [wAcc, wInit]
  · simp [wAcc, h]
theorem wAcc_9 (v : Int32) (n : Nat) (ws : List Int64) (w : Int64) (hne : ws ≠ []) : wAcc 9 v n (ws ++ [w]) = if ws.headD 0 = w then wAcc 9 v n ws else lN 0 := by
  have hh : (ws ++ [w]).headD 0 = ws.headD 0 := by cases ws with
    | nil => exact absurd rfl hne
    | cons a l => rfl
  rw [wAcc, if_pos rfl, wAcc, if_pos rfl, hh, List.all_append]
  by_cases e : ws.headD 0 = w
  · have h1 : [w].all (fun x => decide (x = ws.headD 0)) = true := by simp only [List.all_cons, List.all_nil, Bool.and_true, decide_eq_true_eq]; exact e.symm
    rw [if_pos e, h1, Bool.and_true]
  · have h1 : [w].all (fun x => decide (x = ws.headD 0)) = false := by simp only [List.all_cons, List.all_nil, Bool.and_true, decide_eq_false_iff_not]; exact fun z => e z.symm
    rw [if_neg e, h1, Bool.and_false, if_neg (by decide)]
def woF (A : Ar) : Nat → Nat → Int64
  | 0, _ => 0
  | f + 1, d => wAcc (aK A d) (aV A d) (aP A d).length ((wlO (aK A d) (aP A d) (woF A f)).map (woF A f))
def wo (A : Ar) (d : Nat) : Int64 := woF A (d + 1) d
def wl (A : Ar) (d : Nat) : List Nat := wlO (aK A d) (aP A d) (wo A)
theorem wl_mem {A : Ar} {d p : Nat} (h : p ∈ wl A d) : p ∈ aP A d := wlO_mem h
theorem woF_st {A : Ar} (hE : ELD (aP A) id) : ∀ (f d : Nat), d < f → woF A f d = wo A d := by
  have main : ∀ (f g d : Nat), d < f → d < g → woF A f d = woF A g d := by
    intro f
    induction f with
    | zero => intro g d h; omega
    | succ f ih =>
      intro g d h1 h2
      cases g with
      | zero => omega
      | succ g =>
        have hh : ∀ p ∈ aP A d, woF A f p = woF A g p := fun p hp => ih g p (by have := hE d p hp; simp only [id] at this; omega) (by have := hE d p hp; simp only [id] at this; omega)
        simp only [woF]
        rw [wlO_cong hh, List.map_congr_left (fun p hp => hh p (wlO_mem hp))]
  exact fun f d h => main f (d + 1) d h (Nat.lt_succ_self _)
theorem wo_eq {A : Ar} (hE : ELD (aP A) id) (d : Nat) : wo A d = wAcc (aK A d) (aV A d) (aP A d).length ((wl A d).map (wo A)) := by
  have hh : ∀ p ∈ aP A d, woF A d p = wo A p := fun p hp => woF_st hE d p (by have := hE d p hp; simpa using this)
  rw [wo, woF, wl, wlO_cong hh, List.map_congr_left (fun p hp => hh p (wlO_mem hp))]
def wTk (A : Ar) (d t : Nat) : List Int64 := ((wl A d).take t).map (wo A)
theorem wTk_succ {A : Ar} {d t p : Nat} (h : (wl A d)[t]? = some p) : wTk A d (t + 1) = wTk A d t ++ [wo A p] := by
  simp only [wTk, List.take_succ, h, List.map_append, Option.toList]; rfl
theorem wTk_len {A : Ar} {d t : Nat} (h : t ≤ (wl A d).length) : (wTk A d t).length = t := by simp only [wTk, List.length_map, List.length_take]; omega
/-- which part is chosen -/
theorem wl_get {A : Ar} {d t : Nat} {r x : Int64} (ht : t < (aP A d).length) (hr : aK A d = 7 → t = 1 → r = wAcc 7 (aV A d) (aP A d).length (wTk A d 1)) (hx : ∀ p, 0 < t → (wl A d)[t - 1]? = some p → x = wo A p) (hl : t ≤ (wl A d).length) :
    (wl A d)[t]? = if aK A d = 0 then none else if aK A d = 7 then (if t = 0 then some 0 else if t = 1 ∧ 2 ≤ (aP A d).length then some (1 + fmodN r ((aP A d).length - 1)) else none).bind (fun i => (aP A d)[i]?) else if aK A d = 8 then (if 0 < t ∧ ¬ x = lN 0 then none else (aP A d)[t]?) else (aP A d)[t]? := by
  by_cases h0 : aK A d = 0
  · rw [if_pos h0]; simp [wl, wlO, h0]
  rw [if_neg h0]
  by_cases h7 : aK A d = 7
  · rw [if_pos h7]
    have e : wl A d = ch7 (wo A) (aP A d) := by simp [wl, wlO, h7]
    have er : t = 1 → r = wAcc 7 (aV A d) (aP A d).length (wTk A d 1) := hr h7
    simp only [wTk, e] at er ⊢
    rcases hp : aP A d with _ | ⟨a, _ | ⟨b, q⟩⟩
    · rw [hp] at ht; simp at ht
    · rw [hp] at ht
      have : t = 0 := by simpa using ht
      subst this; rfl
    · rw [hp] at er
      by_cases t0 : t = 0
      · subst t0; rfl
      · by_cases t1 : t = 1
        · subst t1
          have er := er rfl
          have er : r = wo A a := by rw [er]; rfl
          rw [if_neg t0, if_pos ⟨rfl, by simp⟩, er]
          have hf := fmodN_lt (wo A a) (show 0 < (b :: q).length by simp)
          show some ((b :: q).getD (fmodN (wo A a) (b :: q).length) 0) = (a :: b :: q)[1 + fmodN (wo A a) ((a :: b :: q).length - 1)]?
          rw [show 1 + fmodN (wo A a) ((a :: b :: q).length - 1) = fmodN (wo A a) (b :: q).length + 1 from Nat.add_comm .., List.getElem?_cons_succ, List.getD_eq_getElem?_getD, List.getElem?_eq_getElem hf]; rfl
        · rw [if_neg t0, if_neg (fun z => t1 z.1)]
          simp only [ch7, Option.bind_none]
          rw [List.getElem?_eq_none_iff]; simp; omega
  · rw [if_neg h7]
    by_cases h8 : aK A d = 8
    · rw [if_pos h8]
      have e : wl A d = tkU (wo A) (aP A d) := by simp [wl, wlO, h8]
      rw [e] at hx hl ⊢
      cases t with
      | zero => rw [if_neg (by simp)]; exact tkU_0 _ _
      | succ t =>
        have hg : (tkU (wo A) (aP A d))[t]? = some ((tkU (wo A) (aP A d))[t]'(by omega)) := List.getElem?_eq_getElem _
        have hxx := hx _ (Nat.succ_pos t) hg
        rw [tkU_next hg, ← hxx]
        by_cases z : x = lN 0
        · rw [if_pos z, if_neg (fun q => q.2 z)]
        · rw [if_neg z, if_pos ⟨Nat.succ_pos t, z⟩]
    · rw [if_neg h8]; simp [wl, wlO, h0, h7, h8]
set_option maxHeartbeats 2000000 in
theorem go_21 {A : Ar} {σ : St} {d : Nat} (hG : RG A σ) (hd : d < aN A) : preG σ 21 d ∧ RW (runW (goB σ) (fun _ => false) (vis (wl A) id d 1) ([], 0, false)) (goW σ 21 d) ∧ kp (goW σ 21 d) = kp σ ∧ ((runW (goB σ) (fun _ => false) (vis (wl A) id d 1) ([], 0, false)).2.1 = 0 → gL (goW σ 21 d) 0 1 = wo A d) := by
  have hA := hG.2.1
  have hR : ∀ ρ, kp ρ = kp σ → RCd A ρ := fun ρ e => hG.1.ofk e
  have hE : ELD (wl A) id := fun x p hp => hA.lt (wl_mem hp)
  have hin : ∀ ρ, kp ρ = kp σ → ∀ p, UA A p → wInit (gA ρ 0 p) (gJ ρ 0 p) (npt ρ p) = wAcc (aK A p) (aV A p) (nA A p) (wTk A p 0) := by
    intro ρ e p hp
    rw [((hR ρ e).2.1 p hp).1, ((hR ρ e).2.1 p hp).2, (hR ρ e).np hp, show wTk A p 0 = [] from rfl, wAcc_nil]; rfl
  have hT : TB id (UA A) (nA A) (wl A) (fun _ => false) 21 (fun ρ => kp ρ = kp σ) (fun ρ x t k => t ≤ (wl A x).length ∧ gL ρ 0 k = wAcc (aK A x) (aV A x) (nA A x) (wTk A x t) ∧ (aK A x = 9 → 0 < t → gL ρ 1 k = (wTk A x t).headD 0)) (fun ρ x t k => ∀ p, 0 < t → (wl A x)[t - 1]? = some p → gL ρ 0 (k + 1) = wo A p) (fun ρ x k => gL ρ 0 k = wo A x) := by
    refine ⟨fun ρ e => (hR ρ e).dv hA, fun ρ w _ e => e, fun x => wlO_len _ _ _, ?_, ?_, ?_⟩
    · intro ρ x t k h12 hU hk e hP hl
      rw [tLeave_no (by omega) (by omega) (by omega)]
      refine ⟨pL_of (by omega) (by omega) hk ((hR ρ e).okd hA hU), e, ?_, fun _ _ _ _ h => h⟩
      show gL ρ 0 k = wo A x
      rw [hP.2.1, wo_eq hA.eld, wTk, List.take_of_length_le hl]; rfl
    · intro ρ x t k h12 hU hk e hP hTt hn
      have n12 : gN (nxt1 ρ k t) 12 = 21 := h12
      have en : kp (nxt1 ρ k t) = kp σ := e
      have hn : t < (aP A x).length := hn
      rw [tChS_no (by omega) (by omega)]
      refine ⟨pC_of (by omega) (by omega) hk ((hR _ en).okd hA hU) (by rw [show npt (nxt1 ρ k t) (id x) = (aP A x).length from (hR _ en).np hU]; exact hn), ?_, rfl, en, fun _ _ _ _ h => h, ?_⟩
      · have eR : tChR (nxt1 ρ k t) k (id x) t = tC21 (nxt1 ρ k t) k x t := by simp [tChR, n12]
        have ep : prt (nxt1 ρ k t) x = fun i => (aP A x)[i]? := funext (fun i => (hR _ en).pr hU i)
        rw [eR, tC21, plc, (hR _ en).np hU, ep, ((hR _ en).2.1 x hU).1, wl_get (r := gL ρ 0 k) (x := gL ρ 0 (k + 1)) hn (fun h7 t1 => by rw [hP.2.1, h7, t1]; rfl) hTt hP.1]
        rw [show ∀ o : Option Nat, o.map id = o from fun o => by cases o <;> rfl]
        rfl
      · intro p hp hUp hk1
        have v12 : gN (visPre (nxt1 ρ k t) (k + 1) (id p)) 12 = 21 := h12
        have ev : kp (visPre (nxt1 ρ k t) (k + 1) (id p)) = kp σ := e
        rw [tEnter_21 v12]
        refine ⟨pE_of (by omega) (by omega) (by omega) hk1 ((hR _ e).okd hA hUp), fun h => h, e, fun _ => ⟨⟨Nat.zero_le _, ?_, fun _ h => by omega⟩, fun q h => by omega⟩, ?_⟩
        · show (if k + 1 = k + 1 then wInit (gA (visPre (nxt1 ρ k t) (k + 1) (id p)) 0 p) (gJ (visPre (nxt1 ρ k t) (k + 1) (id p)) 0 p) (npt (visPre (nxt1 ρ k t) (k + 1) (id p)) p) else gL ρ 0 (k + 1)) = _
          rw [if_pos rfl]; exact hin _ ev p hUp
        · intro y u j hj hQ
          refine ⟨hQ.1, ?_, hQ.2.2⟩
          show (if j = k + 1 then _ else gL ρ 0 j) = _
          rw [if_neg (by omega)]; exact hQ.2.1
    · intro ρ x t k p h12 hU hUp hk hn e hL hP hp
      rw [tTake_21 h12]
      have h0 : ¬ aK A x = 0 := fun z => by simp [wl, wlO, z] at hp
      have e1 := ((hR ρ e).2.1 x hU).1
      have e2 := ((hR ρ e).2.1 x hU).2
      have hlt : t < (wl A x).length := (List.getElem?_eq_some_iff.mp hp).1
      have hlen : (wTk A x t).length = t := wTk_len (by omega)
      have hp' : ∀ q, 0 < t + 1 → (wl A x)[t + 1 - 1]? = some q → wo A q = wo A p := by
        intro q _ hq
        rw [Nat.add_sub_cancel, hp] at hq
        rw [Option.some.inj hq]
      by_cases h9 : aK A x = 9
      · rw [tT21, show gA ρ 0 (id x) = 9 by rw [← h9]; exact e1, if_pos rfl]
        by_cases ht0 : t = 0
        · subst ht0
          rw [if_pos rfl]
          have ew : wTk A x (0 + 1) = [wo A p] := by rw [wTk_succ hp]; rfl
          refine ⟨e, ⟨hlt, ?_, fun _ _ => ?_⟩, fun q h1 h2 => ?_, fun y u j hj hQ => ⟨hQ.1, hQ.2.1, fun a1 a2 => ?_⟩⟩
          · show gL ρ 0 k = _
            rw [hP.2.1, ew, h9]; simp [wAcc, wTk]
          · show (if k = k then gL ρ 0 (k + 1) else gL ρ 1 k) = _
            rw [if_pos rfl, hL, ew]; rfl
          · show gL ρ 0 (k + 1) = _
            rw [hp' q h1 h2]; exact hL
          · show (if j = k then gL ρ 0 (k + 1) else gL ρ 1 j) = _
            rw [if_neg (by omega)]; exact hQ.2.2 a1 a2
        · rw [if_neg ht0]
          have hne : wTk A x t ≠ [] := fun z => by rw [z] at hlen; simp at hlen; omega
          have h1k := hP.2.2 h9 (by omega)
          have e9 := wAcc_9 (aV A x) (nA A x) (wTk A x t) (wo A p) hne
          have hd9 : (wTk A x (t + 1)).headD 0 = (wTk A x t).headD 0 := by
            rw [wTk_succ hp]
            cases hz : wTk A x t with
            | nil => exact absurd hz hne
            | cons a l => rfl
          by_cases hq : gL ρ 1 k = gL ρ 0 (k + 1)
          · rw [if_pos hq]
            refine ⟨e, ⟨hlt, ?_, fun _ _ => by rw [hd9]; exact h1k⟩, fun q h1 h2 => by rw [hp' q h1 h2]; exact hL, fun y u j hj hQ => hQ⟩
            rw [wTk_succ hp, h9, e9, if_pos (by rw [← h1k, hq, hL]), ← h9]; exact hP.2.1
          · rw [if_neg hq]
            refine ⟨e, ⟨hlt, ?_, fun _ _ => by rw [hd9]; exact h1k⟩, fun q h1 h2 => ?_, fun y u j hj hQ => ⟨hQ.1, ?_, hQ.2.2⟩⟩
            · show (if k = k then lN 0 else gL ρ 0 k) = _
              rw [if_pos rfl, wTk_succ hp, h9, e9, if_neg (by rw [← h1k, ← hL]; exact hq)]
            · show (if k + 1 = k then lN 0 else gL ρ 0 (k + 1)) = _
              rw [if_neg (by omega), hp' q h1 h2]; exact hL
            · show (if j = k then lN 0 else gL ρ 0 j) = _
              rw [if_neg (by omega)]; exact hQ.2.1
      · have esn := wAcc_snoc h9 (aV A x) (nA A x) (wTk A x t) (wo A p)
        rw [hlen] at esn
        rw [tT21, if_neg (by rw [show gA ρ 0 (id x) = aK A x from e1]; exact h9)]
        by_cases h11 : aK A x = 11
        · rw [if_pos (Or.inr (by rw [← h11]; exact e1))]
          refine ⟨e, ⟨hlt, ?_, fun z => absurd z h9⟩, fun q h1 h2 => by rw [hp' q h1 h2]; exact hL, fun y u j hj hQ => hQ⟩
          rw [wTk_succ hp, esn, hP.2.1, h11]; simp [wUp]
        · rw [if_neg (by rw [show gA ρ 0 (id x) = aK A x from e1]; exact fun z => z.elim h0 h11)]
          refine ⟨e, ⟨hlt, ?_, fun z => absurd z h9⟩, fun q h1 h2 => ?_, fun y u j hj hQ => ⟨hQ.1, ?_, hQ.2.2⟩⟩
          · show (if k = k then wUp (gA ρ 0 x) (gJ ρ 0 x) t (gL ρ 0 k) (gL ρ 0 (k + 1)) else gL ρ 0 k) = _
            rw [if_pos rfl, wTk_succ hp, esn, hP.2.1, hL, e1, e2]
          · show (if k + 1 = k then _ else gL ρ 0 (k + 1)) = _
            rw [if_neg (by omega), hp' q h1 h2]; exact hL
          · show (if j = k then _ else gL ρ 0 j) = _
            rw [if_neg (by omega)]; exact hQ.2.1
  have v12 : gN (visPre (goS σ 21) 1 (id d)) 12 = 21 := rfl
  have ev : kp (visPre (goS σ 21) 1 (id d)) = kp σ := rfl
  have hx : id d < 1500 := by have := hA.1; simp only [id]; omega
  obtain ⟨r1, r2, _, _, r5, r6⟩ := hT.go (x := d) (by simp [isT]) hE (fun x p hx hp => UA.up hA hx (wl_mem hp)) hG hd hx
    (by exact pE_of (by omega) (by omega) (by omega) (by decide) ((hR _ rfl).okd hA hd)) (by rw [tEnter_21 v12]; rfl) (by rw [tEnter_21 v12]; rfl) (fun _ => ⟨⟨Nat.zero_le _, by
      rw [tEnter_21 v12]
      show (if 1 = 1 then wInit (gA (visPre (goS σ 21) 1 (id d)) 0 d) (gJ (visPre (goS σ 21) 1 (id d)) 0 d) (npt (visPre (goS σ 21) 1 (id d)) d) else gL σ 0 1) = _
      rw [if_pos rfl]; exact hin _ ev d hd, fun _ h => by omega⟩, fun q h => by omega⟩)
  refine ⟨r1, r2, r5, fun h0 => ?_⟩
  obtain ⟨y, y1, y2⟩ := r6 ((runW_ans _ (by simp)).mp h0)
  have y1 : y = d := y1
  rw [y1] at y2
  exact y2
