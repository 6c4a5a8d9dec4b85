/-- building: what bars, how many nodes, their children, their deeds, which node is open at a depth -/
abbrev Bs : Type := Nat × Nat × (Nat → List Nat) × (Nat → Nat) × (Nat → Nat)
abbrev bB (s : Bs) : Nat := s.1
abbrev bN (s : Bs) : Nat := s.2.1
abbrev bC (s : Bs) : Nat → List Nat := s.2.2.1
abbrev bD (s : Bs) : Nat → Nat := s.2.2.2.1
abbrev bP (s : Bs) : Nat → Nat := s.2.2.2.2
def bpl (M : Mx) (s : Bs) (d k : Nat) : Bs := (100000, bN s + 1, plC (bC s) (bN s) (if k = 1 then none else some (bP s (k - 1))) M.2.2 (fun x => mrk M.1 (va_up (bD s) (bN s) d x)), va_up (bD s) (bN s) d, va_up (bP s) k (bN s))
def bsp (M : Mx) (s : Bs) (v : Nat × Nat) : Bs := if bB s < v.2 then s else if 1 < v.2 ∧ lo M v.1 = true then (v.2, s.2) else bpl M s v.1 v.2
def brn (M : Mx) (L : List (Nat × Nat)) (s : Bs) : Bs := L.foldl (bsp M) s
def bok (M : Mx) : List (Nat × Nat) → Bs → Prop
  | [], _ => True
  | v :: L, s => (¬ bB s < v.2 → ¬ (1 < v.2 ∧ lo M v.1 = true) → 1 < v.2 → bP s (v.2 - 1) < bN s) ∧ bok M L (bsp M s v)
theorem brn_cons (M : Mx) (v : Nat × Nat) (L : List (Nat × Nat)) (s : Bs) : brn M (v :: L) s = brn M L (bsp M s v) := rfl
theorem brn_app (M : Mx) (L1 L2 : List (Nat × Nat)) (s : Bs) : brn M (L1 ++ L2) s = brn M L2 (brn M L1 s) := by simp [brn, List.foldl_append]
theorem bok_app (M : Mx) : ∀ (L1 L2 : List (Nat × Nat)) (s : Bs), bok M L1 s → bok M L2 (brn M L1 s) → bok M (L1 ++ L2) s
  | [], _, _, _, h => h
  | _ :: L1, L2, _, h, h2 => ⟨h.1, bok_app M L1 L2 _ h.2 h2⟩
theorem bsp_N (M : Mx) (s : Bs) (v : Nat × Nat) : bN s ≤ bN (bsp M s v) ∧ bN (bsp M s v) ≤ bN s + 1 := by
  rw [bsp]; split
  · exact ⟨Nat.le_refl _, Nat.le_succ _⟩
  · split
    · exact ⟨Nat.le_refl _, Nat.le_succ _⟩
    · exact ⟨Nat.le_succ _, Nat.le_refl _⟩
theorem brn_N (M : Mx) : ∀ (L : List (Nat × Nat)) (s : Bs), bN s ≤ bN (brn M L s)
  | [], _ => Nat.le_refl _
  | v :: L, s => Nat.le_trans (bsp_N M s v).1 (brn_N M L (bsp M s v))
theorem brn_skip (M : Mx) : ∀ (L : List (Nat × Nat)) (s : Bs), (∀ v ∈ L, bB s < v.2) → brn M L s = s ∧ bok M L s
  | [], _, _ => ⟨rfl, trivial⟩
  | v :: L, s, h => by
    have hv := h v (List.mem_cons_self ..)
    have e : bsp M s v = s := by rw [bsp, if_pos hv]
    obtain ⟨h1, h2⟩ := brn_skip M L s (fun z hz => h z (List.mem_cons_of_mem _ hz))
    rw [brn_cons, e]
    exact ⟨h1, fun z => absurd hv z, by rw [e]; exact h2⟩
theorem visF_ge {X : Type} {ch : X → List X} : ∀ (f : Nat) (x : X) (k : Nat) (v : X × Nat), v ∈ visF ch f x k → k ≤ v.2
  | 0, _, _, _, h => by simp [visF] at h
  | f + 1, x, k, v, h => by
    rw [visF] at h
    rcases List.mem_cons.mp h with rfl | h
    · exact Nat.le_refl _
    · obtain ⟨p, _, hp⟩ := List.mem_flatMap.mp h
      have := visF_ge f p (k + 1) v hp
      omega
theorem visF_le {ch : Nat → List Nat} (hE : ELD ch id) : ∀ (f : Nat) (x k : Nat) (v : Nat × Nat), v ∈ visF ch f x k → v.1 ≤ x
  | 0, _, _, _, h => by simp [visF] at h
  | f + 1, x, k, v, h => by
    rw [visF] at h
    rcases List.mem_cons.mp h with rfl | h
    · exact Nat.le_refl _
    · obtain ⟨p, hp0, hp⟩ := List.mem_flatMap.mp h
      have h1 := visF_le hE f p (k + 1) v hp
      have h2 := hE x p hp0
      simp only [id] at h2
      omega
theorem insL_map {m : Nat → Int64} (f : Nat → Nat) (n : Nat) : ∀ l : List Nat, (insL (fun x => m (f x)) n l).map f = insL m (f n) (l.map f)
  | [] => rfl
  | y :: l => by
    simp only [insL, List.map_cons]; split
    · rfl
    · rw [List.map_cons, insL_map f n l]
def inK (M : Mx) (l : List Nat) (q : Nat) : List Nat := if M.2.2 = true then insL (mrk M.1) q l else l ++ [q]
theorem insP_map (M : Mx) (f : Nat → Nat) (n : Nat) (l : List Nat) : (insP M.2.2 (fun x => mrk M.1 (f x)) n l).map f = inK M (l.map f) (f n) := by
  rw [insP, inK]; split
  · exact insL_map f n l
  · simp
theorem insP_mem {sr : Bool} {m : Nat → Int64} {n j : Nat} {l : List Nat} (h : j ∈ insP sr m n l) : j = n ∨ j ∈ l := by
  rw [insP] at h; split at h
  · exact insL_mem h
  · rcases List.mem_append.mp h with h | h
    · exact Or.inr h
    · exact Or.inl (List.mem_singleton.mp h)
theorem inK_app (M : Mx) (h : M.2.2 = false) : ∀ (l acc : List Nat), l.foldl (inK M) acc = acc ++ l
  | [], acc => by simp
  | x :: l, acc => by
    rw [List.foldl_cons, inK_app M h l, inK, if_neg (by rw [h]; decide)]; simp
theorem inK_kcx {M : Mx} (hso : M.2.2 = true → ∀ d, lo M d = false) (p : Nat) : (kpl M (aP M.1 p)).foldl (inK M) [] = kcx M p := by
  by_cases h : M.2.2 = true
  · have hk : ∀ l : List Nat, kpl M l = l := fun l => List.filter_eq_self.mpr (fun q _ => by rw [hso h q]; rfl)
    rw [hk, kcx, hk, cho, if_pos h, srt]
    have e : inK M = fun acc x => insL (mrk M.1) x acc := by funext acc x; rw [inK, if_pos h]
    rw [e]
  · rw [inK_app M (by cases hb : M.2.2 <;> simp_all), kcx, cho, if_neg h]; rfl
def bJ (r : Nat) (s : Bs) : Prop := (∀ y, y < bN s → ∀ j ∈ bC s y, j < bN s) ∧ ∀ y, y < bN s → bD s y ≤ r
def BA (M : Mx) (r k x : Nat) (l : List Nat) (s s2 : Bs) : Prop :=
  k < bB s2 ∧ bN s ≤ bN s2 ∧ (∀ j, j ≤ k → bP s2 j = bP s j) ∧ (∀ y, y < bN s → bD s2 y = bD s y) ∧ (∀ y, y < bN s → ¬ y = x → bC s2 y = bC s y) ∧
  (bC s2 x).map (bD s2) = (kpl M l).foldl (inK M) ((bC s x).map (bD s)) ∧ (∀ y, bN s ≤ y → y < bN s2 → (bC s2 y).map (bD s2) = kcx M (bD s2 y)) ∧ bN s2 = bN s + ((kpl M l).flatMap (bl M)).length ∧ bJ r s2
theorem BA.comp {M : Mx} {r k x : Nat} {l1 l2 : List Nat} {s s1 s2 : Bs} (h1 : BA M r k x l1 s s1) (h2 : BA M r k x l2 s1 s2) (hx : x < bN s) : BA M r k x (l1 ++ l2) s s2 := by
  obtain ⟨a1, a2, a3, a4, a5, a6, a7, a8, a9⟩ := h1
  obtain ⟨b1, b2, b3, b4, b5, b6, b7, b8, b9⟩ := h2
  have hk : kpl M (l1 ++ l2) = kpl M l1 ++ kpl M l2 := List.filter_append ..
  refine ⟨b1, by omega, fun j hj => (b3 j hj).trans (a3 j hj), fun y hy => (b4 y (by omega)).trans (a4 y hy), fun y hy hn => (b5 y (by omega) hn).trans (a5 y hy hn), ?_, fun y hy1 hy2 => ?_, ?_, b9⟩
  · rw [b6, a6, hk, List.foldl_append]
  · by_cases z : y < bN s1
    · rw [b5 y z (by omega), b4 y z, ← a7 y hy1 z]
      exact List.map_congr_left (fun j hj => b4 j (a9.1 y z j hj))
    · exact b7 y (by omega) hy2
  · rw [b8, a8, hk, List.flatMap_append, List.length_append]; omega
theorem kcx_len {M : Mx} (p : Nat) : ((kcx M p).flatMap (bl M)).length = ((kpl M (aP M.1 p)).flatMap (bl M)).length := by
  have hp : (kcx M p).Perm (kpl M (aP M.1 p)) := (cho_perm M p).filter _
  exact (hp.flatMap_right _).length_eq
theorem bsp_sub {M : Mx} (hA : WA M.1) (hso : M.2.2 = true → ∀ d, lo M d = false) {r : Nat} : ∀ (f k x : Nat) (l : List Nat) (s : Bs), (∀ p ∈ l, p < f ∧ p ≤ r) → 1 ≤ k → k + f < 100000 → x < bN s → bP s k = x → k < bB s → bJ r s →
    bok M (l.flatMap (fun p => vis (aP M.1) id p (k + 1))) s ∧ BA M r k x l s (brn M (l.flatMap (fun p => vis (aP M.1) id p (k + 1))) s) := by
  have hnil : ∀ (k x : Nat) (s : Bs), k < bB s → bJ r s → BA M r k x [] s s := fun k x s hb hJ => ⟨hb, Nat.le_refl _, fun _ _ => rfl, fun _ _ => rfl, fun _ _ _ => rfl, rfl, fun y h1 h2 => by omega, rfl, hJ⟩
  intro f
  induction f with
  | zero =>
    intro k x l s hl hk hf hx hP hb hJ
    rcases l with _ | ⟨p, l⟩
    · exact ⟨trivial, hnil k x s hb hJ⟩
    · have := (hl p (List.mem_cons_self ..)).1; omega
  | succ f ih =>
    intro k x l
    induction l with
    | nil => intro s hl hk hf hx hP hb hJ; exact ⟨trivial, hnil k x s hb hJ⟩
    | cons p l ihl =>
      intro s hl hk hf hx hP hb hJ
      have hp := hl p (List.mem_cons_self ..)
      have hone : bok M (vis (aP M.1) id p (k + 1)) s ∧ BA M r k x [p] s (brn M (vis (aP M.1) id p (k + 1)) s) := by
        rw [vis_eq hA.eld]
        have hnb : ¬ bB s < k + 1 := by omega
        by_cases hlo : lo M p = true
        · have e : bsp M s (p, k + 1) = (k + 1, s.2) := by rw [bsp, if_neg hnb, if_pos ⟨by show 1 < k + 1; omega, hlo⟩]
          have hsk := brn_skip M ((aP M.1 p).flatMap (fun q => vis (aP M.1) id q (k + 1 + 1))) (k + 1, s.2) (fun v hv => by
            obtain ⟨q, _, hq⟩ := List.mem_flatMap.mp hv
            have := visF_ge _ q (k + 1 + 1) v hq
            show k + 1 < v.2
            omega)
          have hkp : kpl M [p] = [] := by simp [kpl, hlo]
          rw [brn_cons, e, hsk.1]
          refine ⟨⟨fun _ z => absurd ⟨by show 1 < k + 1; omega, hlo⟩ z, by rw [e]; exact hsk.2⟩, by show k < k + 1; omega, Nat.le_refl _, fun _ _ => rfl, fun _ _ => rfl, fun _ _ _ => rfl, by rw [hkp]; rfl, fun y h1 h2 => ?_, by rw [hkp]; rfl, hJ⟩
          have h2 : y < bN s := h2
          omega
        · have e : bsp M s (p, k + 1) = bpl M s p (k + 1) := by rw [bsp, if_neg hnb, if_neg (fun z => hlo z.2)]
          have hkp : kpl M [p] = [p] := by simp [kpl, hlo]
          have hN' : bN (bpl M s p (k + 1)) = bN s + 1 := rfl
          have hD' : bD (bpl M s p (k + 1)) = va_up (bD s) (bN s) p := rfl
          have hP' : bP (bpl M s p (k + 1)) = va_up (bP s) (k + 1) (bN s) := rfl
          have hC' : bC (bpl M s p (k + 1)) = va_up (va_up (bC s) (bN s) []) x (insP M.2.2 (fun y => mrk M.1 (va_up (bD s) (bN s) p y)) (bN s) (bC s x)) := by
            show plC (bC s) (bN s) (if k + 1 = 1 then none else some (bP s (k + 1 - 1))) M.2.2 _ = _
            rw [if_neg (by omega), Nat.add_sub_cancel, hP]; rfl
          have hJ' : bJ r (bpl M s p (k + 1)) := by
            refine ⟨fun y hy j hj => ?_, fun y hy => ?_⟩
            · rw [hN'] at hy ⊢
              rw [hC'] at hj
              by_cases y1 : y = x
              · rw [y1, va_up_self] at hj
                rcases insP_mem hj with h | h
                · omega
                · have := hJ.1 x hx j h; omega
              · rw [va_up_ne _ _ y1] at hj
                by_cases y2 : y = bN s
                · rw [y2, va_up_self] at hj; cases hj
                · rw [va_up_ne _ _ y2] at hj
                  have := hJ.1 y (by omega) j hj; omega
            · rw [hN'] at hy
              rw [hD']
              by_cases y2 : y = bN s
              · rw [y2, va_up_self]; exact hp.2
              · rw [va_up_ne _ _ y2]; exact hJ.2 y (by omega)
          have hrec := ih (k + 1) (bN s) (aP M.1 p) (bpl M s p (k + 1)) (fun q hq => by have := hA.lt hq; omega) (by omega) (by omega) (by rw [hN']; omega) (by rw [hP', va_up_self]) (by show k + 1 < 100000; omega) hJ'
          rw [brn_cons, e]
          obtain ⟨r1, r2⟩ := hrec
          generalize brn M ((aP M.1 p).flatMap (fun q => vis (aP M.1) id q (k + 1 + 1))) (bpl M s p (k + 1)) = s1 at r2
          obtain ⟨b1, b2, b3, b4, b5, b6, b7, b8, b9⟩ := r2
          rw [hN'] at b2 b4 b5 b7 b8
          refine ⟨⟨fun _ _ _ => by show bP s (k + 1 - 1) < bN s; rw [Nat.add_sub_cancel, hP]; exact hx, by rw [e]; exact r1⟩, by omega, by omega, fun j hj => ?_, fun y hy => ?_, fun y hy hn => ?_, ?_, fun y h1 h2 => ?_, ?_, b9⟩
          · rw [b3 j (by omega), hP', va_up_ne _ _ (by omega)]
          · rw [b4 y (by omega), hD', va_up_ne _ _ (by omega)]
          · rw [b5 y (by omega) (by omega), hC', va_up_ne _ _ hn, va_up_ne _ _ (by omega)]
          · rw [hkp, List.foldl_cons, List.foldl_nil, b5 x (by omega) (by omega)]
            have e1 : (bC (bpl M s p (k + 1)) x).map (bD s1) = (bC (bpl M s p (k + 1)) x).map (bD (bpl M s p (k + 1))) :=
              List.map_congr_left (fun j hj => b4 j (by have := hJ'.1 x (by rw [hN']; omega) j hj; rw [hN'] at this; exact this))
            rw [e1, hC', va_up_self, hD', insP_map, va_up_self]
            congr 1
            exact List.map_congr_left (fun j hj => va_up_ne _ _ (by have := hJ.1 x hx j hj; omega))
          · by_cases y1 : y = bN s
            · subst y1
              rw [b6, hC', va_up_ne _ _ (by omega), va_up_self, List.map_nil, inK_kcx hso, b4 _ (by omega), hD', va_up_self]
            · exact b7 y (by omega) h2
          · rw [hkp, b8, List.flatMap_cons, List.flatMap_nil, List.append_nil, bl_eq hA.eld, List.length_append, List.length_singleton, kcx_len]; omega
      obtain ⟨o1, o2⟩ := hone
      have hrest := ihl (brn M (vis (aP M.1) id p (k + 1)) s) (fun q hq => hl q (List.mem_cons_of_mem _ hq)) hk hf (by have := o2.2.1; omega) (by rw [o2.2.2.1 k (Nat.le_refl _)]; exact hP) o2.1 o2.2.2.2.2.2.2.2.2
      rw [List.flatMap_cons, brn_app]
      exact ⟨bok_app M _ _ s o1 hrest.1, o2.comp hrest.2 hx⟩
theorem bsp_root {M : Mx} (hA : WA M.1) (hso : M.2.2 = true → ∀ d, lo M d = false) {j : Nat} (hj : j < 1500) (s0 : Bs) (h0 : bN s0 = 0) (hb : bB s0 = 100000) :
    bok M (vis (aP M.1) id j 1) s0 ∧ bN (brn M (vis (aP M.1) id j 1) s0) = (bl M j).length ∧ (∀ y, y < bN (brn M (vis (aP M.1) id j 1) s0) → (bC (brn M (vis (aP M.1) id j 1) s0) y).map (bD (brn M (vis (aP M.1) id j 1) s0)) = kcx M (bD (brn M (vis (aP M.1) id j 1) s0) y)) ∧ bD (brn M (vis (aP M.1) id j 1) s0) 0 = j ∧ ∀ y, y < bN (brn M (vis (aP M.1) id j 1) s0) → bD (brn M (vis (aP M.1) id j 1) s0) y ≤ j := by
  rw [vis_eq hA.eld]
  have e : bsp M s0 (j, 1) = bpl M s0 j 1 := by rw [bsp, if_neg (by rw [hb]; show ¬ 100000 < 1; decide), if_neg (fun z => absurd (show 1 < 1 from z.1) (by decide))]
  have hN' : bN (bpl M s0 j 1) = 1 := by show bN s0 + 1 = 1; rw [h0]
  have hD' : bD (bpl M s0 j 1) = va_up (bD s0) 0 j := by show va_up (bD s0) (bN s0) j = _; rw [h0]
  have hP' : bP (bpl M s0 j 1) = va_up (bP s0) 1 0 := by show va_up (bP s0) 1 (bN s0) = _; rw [h0]
  have hC' : bC (bpl M s0 j 1) = va_up (bC s0) 0 [] := by
    show plC (bC s0) (bN s0) (if 1 = 1 then none else some (bP s0 (1 - 1))) M.2.2 (fun x => mrk M.1 (va_up (bD s0) (bN s0) j x)) = _
    rw [if_pos rfl, h0]; rfl
  have hJ' : bJ j (bpl M s0 j 1) := by
    refine ⟨fun y hy q hq => ?_, fun y hy => ?_⟩
    · rw [hN'] at hy
      rw [hC', show y = 0 by omega, va_up_self] at hq; cases hq
    · rw [hN'] at hy
      rw [hD', show y = 0 by omega, va_up_self]; exact Nat.le_refl _
  have hrec := bsp_sub hA hso (r := j) j 1 0 (aP M.1 j) (bpl M s0 j 1) (fun q hq => by have := hA.lt hq; omega) (by omega) (by omega) (by rw [hN']; omega) (by rw [hP', va_up_self]) (by show 1 < 100000; omega) hJ'
  rw [brn_cons, e]
  obtain ⟨r1, r2⟩ := hrec
  generalize brn M ((aP M.1 j).flatMap (fun q => vis (aP M.1) id q (1 + 1))) (bpl M s0 j 1) = s1 at r2 ⊢
  obtain ⟨b1, b2, b3, b4, b5, b6, b7, b8, b9⟩ := r2
  rw [hN'] at b2 b4 b5 b7 b8
  refine ⟨⟨fun _ _ z => absurd (show 1 < 1 from z) (by decide), by rw [e]; exact r1⟩, ?_, fun y hy => ?_, ?_, b9.2⟩
  · rw [b8, bl_eq hA.eld, List.length_append, List.length_singleton, kcx_len]; omega
  · by_cases y1 : y = 0
    · subst y1
      rw [b6, hC', va_up_self, List.map_nil, inK_kcx hso, b4 _ (by omega), hD', va_up_self]
    · exact b7 y (by omega) hy
  · rw [b4 _ (by omega), hD', va_up_self]
def ndS (A : Ar) (s : Bs) (x : Nat) : Nat × Int32 := (aK A (bD s x), aV A (bD s x))
def mkN (A : Ar) (s : Bs) (x : Nat) : Int64 := mrk A (bD s x)
theorem up_comp {α : Type} (g : Nat → α) (f : Nat → Nat) (n d : Nat) : va_up (fun x => g (f x)) n (g d) = fun x => g (va_up f n d x) := by
  funext x
  simp only [va_up]; split <;> rfl
theorem pf_bl {M : Mx} (hA : WA M.1) {n : Nat} {cl : Nat → List Nat} {dn : Nat → Nat} (hY : YNG n cl) (h : ∀ y, y < n → (cl y).map dn = kcx M (dn y)) : ∀ (f x : Nat), x < n → n - x ≤ f → pf n cl (fun y => (aK M.1 (dn y), aV M.1 (dn y))) x = bl M (dn x) := by
  intro f
  induction f with
  | zero => intro x hx hf; omega
  | succ f ih =>
    intro x hx hf
    rw [pf_eq hY hx, bl_eq hA.eld, ← h x hx, List.flatMap_map]
    congr 1
    · exact flatMap_cong (fun j hj => by
        have := hY x hx j hj
        exact ih j this.2 (by omega))
    · have hl : (cl x).length = (kcx M (dn x)).length := by rw [← h x hx, List.length_map]
      show [((aK M.1 (dn x), aV M.1 (dn x)).1, (aK M.1 (dn x), aV M.1 (dn x)).2, (cl x).length)] = [opx M (dn x)]
      rw [opx, hl]
/-- what building leaves as it is -/
def xB (τ σ : St) : Prop := xG τ σ ∧ ars τ = ars σ ∧ gN τ 8 = gN σ 8 ∧ gA τ 6 = gA σ 6 ∧ gA τ 7 = gA σ 7 ∧ gL τ 1 = gL σ 1
theorem xB.tr {a b c : St} (h : xB a b) (g : xB b c) : xB a c := ⟨h.1.tr g.1, h.2.1.trans g.2.1, h.2.2.1.trans g.2.2.1, h.2.2.2.1.trans g.2.2.2.1, h.2.2.2.2.1.trans g.2.2.2.2.1, h.2.2.2.2.2.trans g.2.2.2.2.2⟩
theorem xT.xb {τ σ : St} (h : xT τ σ) : xB τ σ := by
  have ha := xT_ars h
  obtain ⟨h1, h2, h3, h4, h5, h6, h7, h8⟩ := h
  exact ⟨⟨h1 2 (by decide), h1 3 (by decide), h1 4 (by decide), h1 5 (by decide), h1 6 (by decide), h2 3 (by decide), congrFun h3 0⟩, ha, h1 8 (by decide), h2 6 (by decide), h2 7 (by decide), h5 1 (by decide)⟩
theorem xB_11 (τ : St) (n : Nat) : xB (sN τ 11 n) τ := ⟨⟨rfl, rfl, rfl, rfl, rfl, rfl, rfl⟩, rfl, rfl, rfl, rfl, rfl⟩
theorem xB_12 (τ : St) (f : Nat → Nat) : xB (sA τ 12 f) τ := ⟨⟨rfl, rfl, rfl, rfl, rfl, rfl, rfl⟩, rfl, rfl, rfl, rfl, rfl⟩
theorem TR.opn {n : Nat} {cl : Nat → List Nat} {nd : Nat → Nat × Int32} {mN : Nat → Int64} {τ : St} (h : TR n cl nd mN τ) (f : Nat → Nat) : TR n cl nd mN (sA τ 12 f) := h
theorem TR.zero (τ : St) (cl : Nat → List Nat) (nd : Nat → Nat × Int32) (mN : Nat → Int64) : TR 0 cl nd mN (sN τ 11 0) := ⟨rfl, fun x hx => by omega, fun x i j hx => by omega, fun x y i k j hx => by omega, fun h => by omega⟩
