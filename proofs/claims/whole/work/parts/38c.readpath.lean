/-- what the reference finds wrong where a deed begins -/
def rdE (P : List Nat) (i : Nat) : Option Nat := match pKd P i with
  | none => some i
  | some _ => if fBd P (i + 1) = true then some (pNe P (i + 1)) else none
theorem kd_in (τ : St) (P : List Nat) (hb : ∀ b ∈ P, b < 256) (i : Nat) : hasD 12 (oI P[i]? - nI 97) = (pKd P i).isSome ∧ ∀ k, pKd P i = some k → oI P[i]? - nI 97 = nI k ∧ k < 12 ∧ i < P.length := by
  have hp : PAT P (sN (sN (sA τ 12 (fun j => P.getD j 0)) 2 P.length) 5 i) := ⟨rfl, fun _ _ => rfl⟩
  have h := pat_K hp hb
  rw [skB, skV, hp.at] at h
  exact h
theorem fBd_f {P : List Nat} {i : Nat} (h : fBd P i = false) : pGood P i = true := by
  simp only [fBd, Bool.or_eq_false_iff, Bool.not_eq_false'] at h
  exact h.1
theorem prs_ok {P : List Nat} {i k : Nat} (h : rdE P i = none) (hk : pKd P i = some k) (f : Nat) (O : Opn) (ops : List Op) : prs P (f + 1) none i O ops = prs P f (some (some (k, pNv P (i + 1)))) (pNe P (i + 1)) O ops ∧ pGood P (i + 1) = true := by
  simp only [rdE, hk] at h
  have hf : fBd P (i + 1) = false := by
    cases hq : fBd P (i + 1) with
    | false => rfl
    | true => rw [hq, if_pos rfl] at h; cases h
  have hg := fBd_f hf
  refine ⟨?_, hg⟩
  simp only [prs, hk]
  rw [if_pos hg]
theorem prs_err {P : List Nat} {i e : Nat} (h : rdE P i = some e) (f : Nat) (O : Opn) (ops : List Op) : (prs P (f + 3) none i O ops).1 = some e := by
  simp only [rdE] at h
  simp only [prs]
  cases hk : pKd P i with
  | none => rw [hk] at h; exact h
  | some k =>
    rw [hk] at h
    have hf : fBd P (i + 1) = true := by
      cases hq : fBd P (i + 1) with
      | true => rfl
      | false => simp only [hq] at h; cases h
    have h : some (pNe P (i + 1)) = some e := by simpa only [hf, if_true] using h
    have h := Option.some.inj h
    subst h
    by_cases hg : pGood P (i + 1) = true
    · show (if pGood P (i + 1) = true then _ else _ : Option Nat × List Op).1 = _
      rw [if_pos hg]
      have hx := pGood_x hg
      have h2 : P[pJ P (i + 1)]? = some 48 ∧ isFg P[pJ P (i + 1) + 1]? = true := by
        simpa [fBd, hg] using hf
      have h3 := (fg_0 hx.1 h2.1).2.1
      obtain ⟨b, hb, hb1, hb2⟩ := isFg_some h2.2
      have hlt := isFg_len h2.2
      rw [h3] at *
      rw [if_neg (by rw [hb]; intro z; have := Option.some.inj z; omega)]
      rcases hO : incT O with _ | ⟨q, O'⟩
      · show (if pJ P (i + 1) + 1 = P.length then none else some (pJ P (i + 1) + 1)) = _
        rw [if_neg (by omega)]
      · show (if P[pJ P (i + 1) + 1]? = some 41 then _ else if P[pJ P (i + 1) + 1]? = some 44 then _ else _ : Option Nat × List Op).1 = _
        rw [if_neg (by rw [hb]; intro z; have := Option.some.inj z; omega), if_neg (by rw [hb]; intro z; have := Option.some.inj z; omega)]
    · show (if pGood P (i + 1) = true then _ else _ : Option Nat × List Op).1 = _
      rw [if_neg hg]
/-- the open deeds of a reading -/
def fOp (nd : Nat → Nat × Int32) (c : List (Nat × Nat)) : Opn := c.map (fun q => ((nd q.1).1, (nd q.1).2, q.2))
def dT (cl : Nat → List Nat) (T : Nat → List Op) : List (Nat × Nat) → List Op
  | [] => []
  | (y, i) :: c => dT cl T c ++ ((cl y).take i).flatMap T
def LST (cl : Nat → List Nat) (c : List (Nat × Nat)) : Prop := ∀ q ∈ c, (cl q.1).length = q.2 + 1
def DN (n : Nat) (cl : Nat → List Nat) (nd : Nat → Nat × Int32) (T : Nat → List Op) (B : List Nat) : Prop := ∀ w, w < n → w ∉ B → T w = (cl w).flatMap T ++ [opn cl nd w]
theorem par_in {n : Nat} {cl : Nat → List Nat} {nd : Nat → Nat × Int32} {mN : Nat → Int64} {τ : St} (h : TR n cl nd mN τ) {c : List (Nat × Nat)} {x w : Nat} (hp : PTH n cl c x) (hw : w < n) (hj : x ∈ cl w) : w ∈ c.map Prod.fst := by
  obtain ⟨p, hp1, hp2⟩ := List.getElem_of_mem hj
  have hg : (cl w)[p]? = some x := by rw [List.getElem?_eq_getElem hp1, hp2]
  rcases c with _ | ⟨⟨y, i⟩, c⟩
  · have hx : x = 0 := hp
    have := (h.2.2.1 w p x hw hg).1
    omega
  · obtain ⟨h1, h2, h3⟩ := hp
    have := (h.2.2.2.1 w y p i x hw h1 hg h2).1
    rw [this]; simp
theorem dT_up {cl : Nat → List Nat} {T : Nat → List Op} {x : Nat} {L : List Op} : ∀ {c : List (Nat × Nat)}, (∀ q ∈ c, ∀ j ∈ (cl q.1).take q.2, ¬ j = x) → dT cl (va_up T x L) c = dT cl T c
  | [], _ => rfl
  | (y, i) :: c, h => by
    rw [dT, dT, dT_up (fun q hq => h q (List.mem_cons_of_mem _ hq))]
    congr 1
    exact flatMap_cong (fun j hj => va_up_ne _ _ (h (y, i) (List.mem_cons_self ..) j hj))
theorem dT_cl {cl cl2 : Nat → List Nat} {T : Nat → List Op} : ∀ {c : List (Nat × Nat)}, (∀ q ∈ c, cl2 q.1 = cl q.1) → dT cl2 T c = dT cl T c
  | [], _ => rfl
  | (y, i) :: c, h => by
    rw [dT, dT, dT_cl (fun q hq => h q (List.mem_cons_of_mem _ hq)), show cl2 y = cl y from h (y, i) (List.mem_cons_self ..)]
theorem PTH_cl {n : Nat} {cl cl2 : Nat → List Nat} : ∀ {c : List (Nat × Nat)} {x : Nat}, PTH n cl c x → (∀ q ∈ c, cl2 q.1 = cl q.1) → PTH (n + 1) cl2 c x
  | [], _, h, _ => h
  | (y, i) :: c, x, h, e => by
    obtain ⟨h1, h2, h3⟩ := h
    refine ⟨by omega, ?_, PTH_cl h3 (fun q hq => e q (List.mem_cons_of_mem _ hq))⟩
    rw [show cl2 y = cl y from e (y, i) (List.mem_cons_self ..)]; exact h2
theorem rd_leaf {n : Nat} {cl : Nat → List Nat} {nd : Nat → Nat × Int32} {mN : Nat → Int64} {τ : St} (h : TR n cl nd mN τ) {c : List (Nat × Nat)} {x : Nat} {T : Nat → List Op} (hp : PTH n cl c x) (hcx : cl x = []) (hd : DN n cl nd T (x :: c.map Prod.fst)) :
    DN n cl nd (va_up T x [opn cl nd x]) (c.map Prod.fst) ∧ dT cl (va_up T x [opn cl nd x]) c = dT cl T c := by
  refine ⟨fun w hw hB => ?_, dT_up (h.apart hp)⟩
  by_cases e : w = x
  · subst e; rw [va_up_self, hcx]; rfl
  · rw [va_up_ne _ _ e, hd w hw (fun z => (List.mem_cons.mp z).elim e hB)]
    congr 1
    refine (flatMap_cong (fun j hj => va_up_ne _ _ (fun z => hB ?_))).symm
    subst z
    exact par_in h hp hw hj
theorem cut_last {l : List Nat} {i x : Nat} (h : l[i]? = some x) (hl : l.length = i + 1) : l = l.take i ++ [x] := by
  have := cut_at h
  rw [List.drop_eq_nil_of_le (by omega)] at this
  exact this
theorem rd_close {n : Nat} {cl : Nat → List Nat} {nd : Nat → Nat × Int32} {mN : Nat → Int64} {τ : St} (h : TR n cl nd mN τ) {c : List (Nat × Nat)} {x y i : Nat} {T : Nat → List Op} (hp : PTH n cl ((y, i) :: c) x) (hl : (cl y).length = i + 1) (hd : DN n cl nd T (y :: c.map Prod.fst)) :
    DN n cl nd (va_up T y ((cl y).flatMap T ++ [opn cl nd y])) (c.map Prod.fst) ∧ dT cl (va_up T y ((cl y).flatMap T ++ [opn cl nd y])) c = dT cl T c ∧ dT cl T ((y, i) :: c) ++ T x = dT cl T c ++ (cl y).flatMap T := by
  obtain ⟨h1, h2, h3⟩ := hp
  refine ⟨fun w hw hB => ?_, dT_up (h.apart h3), ?_⟩
  · have hne : ∀ j ∈ cl w, ¬ j = y := fun j hj z => by
      subst z
      by_cases e : w = j
      · have := (h.yng w hw j hj).1; omega
      · exact hB (par_in h h3 hw hj)
    rw [flatMap_cong (g := T) (fun j hj => va_up_ne _ _ (hne j hj))]
    by_cases e : w = y
    · subst e; rw [va_up_self]
    · rw [va_up_ne _ _ e]; exact hd w hw (fun z => (List.mem_cons.mp z).elim e hB)
  · conv => rhs; rw [cut_last h2 hl]
    rw [dT, List.flatMap_append, List.flatMap_cons, List.flatMap_nil, List.append_nil, List.append_assoc]
theorem rd_new {n : Nat} {cl : Nat → List Nat} {nd : Nat → Nat × Int32} {mN : Nat → Int64} {τ : St} (h : TR n cl nd mN τ) {c : List (Nat × Nat)} {u : Nat} {T : Nat → List Op} {kv : Nat × Int32} {m : Nat → Int64} (hp : PTH n cl c u) (hu : u < n) (hls : LST cl c) (hd : DN n cl nd T (u :: c.map Prod.fst)) :
    PTH (n + 1) (plC cl n (some u) false m) ((u, (cl u).length) :: c) n ∧ plC cl n (some u) false m n = [] ∧ LST (plC cl n (some u) false m) ((u, (cl u).length) :: c) ∧ DN (n + 1) (plC cl n (some u) false m) (va_up nd n kv) T (n :: u :: c.map Prod.fst) ∧ dT (plC cl n (some u) false m) T ((u, (cl u).length) :: c) = dT cl T c ++ (cl u).flatMap T ∧ fOp (va_up nd n kv) ((u, (cl u).length) :: c) = ((nd u).1, (nd u).2, (cl u).length) :: fOp nd c := by
  have e : plC cl n (some u) false m = va_up (va_up cl n []) u (cl u ++ [n]) := by rw [plC, insP, if_neg (by decide)]
  rw [e]
  have eu : va_up (va_up cl n []) u (cl u ++ [n]) u = cl u ++ [n] := va_up_self _ _ _
  have ew : ∀ w, w < n → ¬ w = u → va_up (va_up cl n []) u (cl u ++ [n]) w = cl w := fun w h1 h2 => by rw [va_up_ne _ _ h2, va_up_ne _ _ (by omega)]
  have hlt := PTH.lt h.yng hp
  have ec : ∀ q ∈ c, va_up (va_up cl n []) u (cl u ++ [n]) q.1 = cl q.1 := fun q hq => ew q.1 (by have := hlt q hq; omega) (by have := hlt q hq; omega)
  have en : ∀ w, w < n → va_up nd n kv w = nd w := fun w hw => va_up_ne _ _ (by omega)
  refine ⟨⟨by omega, by rw [eu]; simp, PTH_cl hp ec⟩, ?_, fun q hq => ?_, fun w hw hB => ?_, ?_, ?_⟩
  · rw [va_up_ne _ _ (by omega), va_up_self]
  · rcases List.mem_cons.mp hq with rfl | hq
    · show (va_up (va_up cl n []) u (cl u ++ [n]) u).length = _
      rw [eu]; simp
    · rw [ec q hq]; exact hls q hq
  · have w1 : ¬ w = n := fun z => hB (by rw [z]; simp)
    have w2 : ¬ w = u := fun z => hB (by rw [z]; simp)
    rw [ew w (by omega) w2]
    have eo : opn (va_up (va_up cl n []) u (cl u ++ [n])) (va_up nd n kv) w = opn cl nd w := by rw [opn, opn, ew w (by omega) w2, en w (by omega)]
    rw [eo]
    exact hd w (by omega) (fun z => hB (List.mem_cons_of_mem _ z))
  · rw [dT, dT_cl ec, eu, List.take_left]
  · have : (c.map fun q => ((va_up nd n kv q.1).1, (va_up nd n kv q.1).2, q.2)) = fOp nd c := List.map_congr_left (fun q hq => by rw [en q.1 (by have := hlt q hq; omega)])
    show ((va_up nd n kv u).1, (va_up nd n kv u).2, (cl u).length) :: (c.map fun q => ((va_up nd n kv q.1).1, (va_up nd n kv q.1).2, q.2)) = _
    rw [this, en u hu]
theorem pf_T {n : Nat} {cl : Nat → List Nat} {nd : Nat → Nat × Int32} {T : Nat → List Op} (hY : YNG n cl) (h : DN n cl nd T []) : ∀ (f x : Nat), x < n → n - x ≤ f → pf n cl nd x = T x := by
  intro f
  induction f with
  | zero => intro x hx hf; omega
  | succ f ih =>
    intro x hx hf
    rw [pf_eq hY hx, h x hx (by simp), flatMap_cong (g := T) (fun j hj => by
      have := hY x hx j hj
      exact ih j this.2 (by omega))]
/-- a reading under way -/
def RX (P : List Nat) (σ τ : St) (n : Nat) (cl : Nat → List Nat) (nd : Nat → Nat × Int32) (mN : Nat → Int64) (pl : Nat) : Prop := TR n cl nd mN τ ∧ gN τ 12 = pl ∧ gO τ 0 = none ∧ xG τ σ ∧ ars τ = ars σ ∧ pl ≤ P.length ∧ n ≤ pl ∧ ∀ y, y < n → (nd y).1 < 12
theorem PTr.xg {P : List Nat} {τ σ : St} (h : PTr P σ) (e : xG τ σ) : PTr P τ := ⟨e.2.2.1.trans h.1, fun i hi => by rw [e.2.2.2.2.2.1]; exact h.2.1 i hi, h.2.2⟩
theorem prs_A (P : List Nat) (f : Nat) (kv : Nat × Int32) (at_ : Nat) (O : Opn) (ops : List Op) : prs P (f + 1) (some (some kv)) at_ O ops = if P[at_]? = some 40 then prs P f none (at_ + 1) ((kv.1, kv.2, 0) :: O) ops else prs P f (some none) at_ (incT O) (ops ++ [(kv.1, kv.2, 0)]) := by rw [prs]
theorem prs_C0 (P : List Nat) (f at_ : Nat) (ops : List Op) : prs P (f + 1) (some none) at_ [] ops = (if at_ = P.length then none else some at_, ops) := by rw [prs]
theorem prs_C1 (P : List Nat) (f at_ : Nat) (q : Nat × Int32 × Nat) (O : Opn) (ops : List Op) : prs P (f + 1) (some none) at_ (q :: O) ops = if P[at_]? = some 41 then prs P f (some none) (at_ + 1) (incT O) (ops ++ [q]) else if P[at_]? = some 44 then prs P f none (at_ + 1) (q :: O) ops else (some at_, ops) := by rw [prs]
theorem rdE_le {P : List Nat} {i e : Nat} (h : rdE P i = some e) (hl : P.length ≤ 6000) (hi : i ≤ 6000) : e ≤ 6001 := by
  simp only [rdE] at h
  cases hk : pKd P i with
  | none => rw [hk] at h; have := Option.some.inj h; omega
  | some k =>
    have hlt : i < P.length := by
      rcases Nat.lt_or_ge i P.length with q | q
      · exact q
      · rw [pKd, List.getElem?_eq_none q] at hk; cases hk
    rw [hk] at h
    cases hq : fBd P (i + 1) with
    | true =>
      simp only [hq, if_true] at h
      have h1 := Option.some.inj h
      have h2 := pNe_le (P := P) (i := i + 1) (by omega)
      omega
    | false => simp only [hq] at h; cases h
theorem RX.new {P : List Nat} {σ τ1 τ3 : St} {n : Nat} {cl : Nat → List Nat} {nd : Nat → Nat × Int32} {mN : Nat → Int64} {i k : Nat} {u : Option Nat} (hnd : ∀ y, y < n → (nd y).1 < 12) (hn : n ≤ i) (x1 : xG τ1 σ) (x2 : ars τ1 = ars σ) (y1 : xG τ3 τ1) (y2 : ars τ3 = ars τ1) (y4 : rdE P i = none) (y5 : pKd P i = some k) (y6 : k < 12) (y7 : i < P.length) (y8 : gO τ3 0 = none) (y9 : gN τ3 12 = pNe P (i + 1)) (y10 : TR (n + 1) (plC cl n u false (va_up mN n (lN 0))) (va_up nd n (k, pNv P (i + 1))) (va_up mN n (lN 0)) τ3) :
    RX P σ τ3 (n + 1) (plC cl n u false (va_up mN n (lN 0))) (va_up nd n (k, pNv P (i + 1))) (va_up mN n (lN 0)) (pNe P (i + 1)) ∧ i + 2 ≤ pNe P (i + 1) ∧ pNe P (i + 1) ≤ P.length := by
  have hg := (prs_ok y4 y5 0 [] []).2
  have hq := pGood_pos (P := P) (i := i + 1) (by omega) hg
  refine ⟨⟨y10, y9, y8, y1.tr x1, y2.trans x2, hq.2, by omega, fun y hy => ?_⟩, by omega, hq.2⟩
  by_cases e : y = n
  · rw [e, va_up_self]; exact y6
  · rw [va_up_ne _ _ e]; exact hnd y (by omega)
