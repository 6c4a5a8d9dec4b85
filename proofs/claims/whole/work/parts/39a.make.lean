/-! making: rules for methods that make cells, and for calls with a rest that stays -/
abbrev nestD : Cond := .methodLinkNest "NestedDeeds" 11 ⟨"NestedDeeds$Deeds", "<init>", "()V"⟩ "NestedDeeds"
abbrev nestP : Cond := .methodLinkNest "NestedDeeds" 18 ⟨"NestedDeeds$Paper", "<init>", "()V"⟩ "NestedDeeds"
def K2 (G : Gx) (U : State) : Prop := KK G U ∧ va_Nw nestD U ∧ va_Nw nestP U
theorem K2.warm {G : Gx} {u U : State} (hW : u.WarmedH U.vm) (h : K2 G u) : K2 G U := ⟨h.1.warm hW, va_Nw.warmM hW h.2.1, va_Nw.warmM hW h.2.2⟩
theorem K2.same {G : Gx} {u U : State} (hv : u.vm = U.vm) (h : K2 G u) : K2 G U := ⟨h.1.same hv, va_Nw.same rfl hv h.2.1, va_Nw.same rfl hv h.2.2⟩
/-- the same walk with other counts -/
abbrev zat (Z : Cx) (k t : Nat) : Cx := (zp Z, zl Z, ze Z, zR Z, zs Z, zm Z, za Z, zb Z, zM Z, zc Z, zG Z, zA Z, zn Z, zQ Z, k, t)
theorem XC.at {Z : Cx} {own : String} {cc : ByteArray} {rt : Option FieldType} (X : XC Z own cc rt) (k t : Nat) : XC (zat Z k t) own cc rt := X
theorem V.perm {Z : Cx} {ws ws' : va_W} {lv : List (Nat × Value)} {pc : Nat} {st : List Value} (is : List Nat) (h1 : is.filterMap (fun i => ws[i]?) = ws') (h2 : va_nd is = true) (h3 : is.map (fun i => ws[i]?) = ws'.map some) (k : V Z ws' lv pc st) : V Z ws lv pc st :=
  fun H locs ls hP hD hS hl => k H locs ls (hP.sub is h1) (hD.sub is h2 h3) hS hl
theorem V.newa {Z : Cx} {k t : Nat} {own : String} {cc : ByteArray} {rt : Option FieldType} {ws : va_W} {lv : List (Nat × Value)} {pc : Nat} {st : List Value} (X : XC Z own cc rt) {atype : ArrayType} {ty : FieldType} {cA : ClassId} (t0 : Nat) (htl : (tyl (zG Z))[t0]? = some (cA, ty)) (hra : ∀ c, va_RA (zs Z) c ty = ((zs Z).vm.findClass ("[" ++ ty.toString) = some c)) (hw : Cond.arrayClass ty ∈ tb) (hty : newarray.typeOf atype = ty) (hA : ∀ q, (zs Z).heap.size ≤ q → zA Z q)
    {n : Int32} {N : Nat} {a0 : vp_A} (ha : ∀ cA : ClassId, vp_cell cA a0 = arrV cA N (fun _ => defaultValue ty)) (hn : ¬ n < 0) (hN : n.toNatClampNeg = N) (hbytes : N * componentBytes ty ≤ 536870912) (hc : k + 1 ≤ (zR Z).cells) (hs : t + N ≤ (zR Z).slots) (hd : decode cc pc = .ok (.newarray atype, 2))
    (kk : ∀ q, V (zat Z (k + 1) (t + N)) (ws ++ [(q, .inl (cA, a0))]) lv (pc + 2) (.ref q :: st)) : V (zat Z k t) ws lv pc (.int n :: st) := by
  intro H locs ls hP hD hS hl
  refine va_newa X.x X.b (by rw [hty]; exact X.t _ hw) hty X.K.1 hP hD hS hA ha hn hN hbytes hc hs hd (fun q cB H1 hK1 hP1 hD1 hS1 => ?_)
  have e1 := (X.K.1.2 t0 _ htl).2
  have e2 := (hK1.2 4 (cB, ty) rfl).2
  rw [hra] at e1 e2
  have e3 : cB = cA := Option.some.inj (e2.symm.trans e1)
  subst e3
  exact kk q H1 locs ls hP1 hD1 hS1 hl
theorem V.newc {Z : Cx} {k t : Nat} {own : String} {cc : ByteArray} {rt : Option FieldType} {ws : va_W} {lv : List (Nat × Value)} {pc : Nat} {st : List Value} (X : XC Z own cc rt) {C : String} {T : u_T} {N index : Nat} (ci : Nat) (ty : Nat → FieldType) (hty : ∀ k, k < N → parseFieldDescriptor (T k).2.2.1 = some (ty k)) (hin : ∀ w ∈ u_ws C T N, w ∈ tb) (hc : vwCl[ci]? = some (C, T, N)) (hcl : Cond.classLink own index C ∈ tb) (hinst : Cond.instantiable C N ∈ tb) (hini : Cond.initialized C ∈ tb) (hA : ∀ q, (zs Z).heap.size ≤ q → zA Z q)
    {fs : List Value} (hfs : ∀ j, j < N → defaultValue (ty j) = vp_V fs j) (hcs : k + 1 ≤ (zR Z).cells) (hs : t + N ≤ (zR Z).slots) (hd : decode cc pc = .ok (.new index, 3))
    (kk : ∀ q, V (zat Z (k + 1) (t + N)) (ws ++ [(q, .inr (ci, fs))]) lv (pc + 3) (.ref q :: st)) : V (zat Z k t) ws lv pc st :=
  fun H locs ls hP hD hS hl => va_new X.x X.b X.t hin ty hty X.o (X.t _ hcl) (X.t _ hinst) (X.t _ hini) X.K.1 hP hD hS hA hc hfs hcs hs hd (fun q H1 hP1 hD1 hS1 => kk q H1 locs ls hP1 hD1 hS1 hl)
theorem V.putF {Z : Cx} {own : String} {cc : ByteArray} {rt : Option FieldType} {ws : va_W} {lv : List (Nat × Value)} {pc : Nat} {st : List Value} (X : XC Z own cc rt) (hin2 : (zM Z).name = "<init>") {ref C : String} {T : u_T} {N ci index a : Nat} {fs : List Value} {ty : FieldType} {v : Value} {ws' : va_W} (ty0 : Nat → FieldType) (hty : ∀ k, k < N → parseFieldDescriptor (T k).2.2.1 = some (ty0 k)) (hnm : ∀ a, a < N → ∀ b, b < N → a ≠ b → (T a).2.1 ≠ (T b).2.1) (hin : ∀ w ∈ u_ws C T N, w ∈ tb) (q0 : Nat) (he : ws[q0]? = some (a, .inr (ci, fs))) (hc : vwCl[ci]? = some (C, T, N)) (k : Nat) (hk : k < N) (hfin : (T k).2.2.2 = true) (hdecl : (T k).1 = own) (hdd : parseFieldDescriptor (T k).2.2.1 = some ty) (hn : narrow ty v = v) (hfit : fits ty v = true) (hl0 : k < fs.length) (hset : ws.set q0 (a, .inr (ci, fs.set k v)) = ws') (hsame : ref = (T k).1) (hw : Cond.fieldLink own index ref (T k).2.1 (T k).2.2.1 ∈ tb) (hd : decode cc pc = .ok (.putfield index, 3)) (kk : V Z ws' lv (pc + 3) st) : V Z ws lv pc (v :: .ref a :: st) := fun H locs ls hP hD hS hl =>
  va_putF X.x X.b X.t hin ty0 hty hnm X.o X.K.1 hP hD hS q0 he hc k hk (X.t _ hw) (fun x h => hsame ▸ h) hfin hin2 hdecl hdd hn hfit hl0 hd (fun H1 locs1 hP1 hD1 hS1 => kk H1 locs1 ls (hset ▸ hP1) (hset ▸ hD1) hS1 hl)
theorem V.objI {Z : Cx} {own : String} {cc : ByteArray} {rt : Option FieldType} {ws : va_W} {lv : List (Nat × Value)} {pc idx a : Nat} {rest : List Value} (X : XC Z own cc rt) (hw : Cond.methodLink own idx ⟨"java/lang/Object", "<init>", "()V"⟩ ∈ tb) (hfr : 1 ≤ (zR Z).frames) (hlc : (rest.map fun v => v.category).sum + 12 ≤ (zR Z).locals) (hd : decode cc pc = .ok (.invokespecial idx, 3)) (kk : V Z ws lv (pc + 3) rest) : V Z ws lv pc (.ref a :: rest) := by
  intro H locs ls hP hD hS hl
  exact W.objInit X.x X.b X.o (X.t _ hw) (X.t _ tw_70) (X.t _ (show Cond.code ⟨"java/lang/Object", "<init>", "()V"⟩ ⟨#[0xb1]⟩ 1 none ∈ tb from tw_71)) rfl (by rw [X.ml]; exact hl.1) rfl hd hfr (by show 2 * 0 + _ + 12 ≤ _; omega) (kk H locs ls hP hD hS hl)
/-- A CONSTRUCTOR'S CONTRACT: from the world ws it comes to a world of post; mc cells of ms slots are new -/
def MC (l : Launch) (G : Gx) (y : MethodName) (bytes : ByteArray) (maxL fr lc mc ms : Nat) (As : List Value) (ws : va_W) (post : va_W → Prop) : Prop :=
  ∀ sz : Nat, Met l y (Cond.code y bytes maxL none :: tb) { frames := fr, cells := mc, slots := ms, locals := lc }
    (va_Pc As (fun U => U.heap.size = sz ∧ va_P G.1 vwCl ws U.heap ∧ K2 G U ∧ va_D (fun _ => True) ws)) (va_Qv post (fun w t => va_P G.1 vwCl w t.heap ∧ va_D (va_A ws sz) w) (va_A ws sz)) mc ms (va_A ws sz)
theorem MC.of {l : Launch} {G : Gx} {y : MethodName} {bytes : ByteArray} {maxL fr lc mc ms : Nat} {As : List Value} {ws : va_W} {post : va_W → Prop} {lv : List (Nat × Value)}
    (hy : plainName y.cls = true) (hyn : y.name = "<init>") (hlv : lv_args 0 As = lv) (hlen : (lg_sl As).length ≤ maxL)
    (body : ∀ Z : Cx, (zR Z).frames = fr → (zR Z).locals = lc → (zR Z).cells = mc → (zR Z).slots = ms → zl Z = l → zG Z = G → zn Z = maxL → zA Z = va_A ws (zs Z).heap.size → zQ Z = MQ (zb Z) (va_Qv post (fun w t => va_P G.1 vwCl w t.heap ∧ va_D (va_A ws (zs Z).heap.size) w) (va_A ws (zs Z).heap.size)) (za Z) (zs Z) mc ms (va_A ws (zs Z).heap.size) → (zM Z).name = "<init>" → K2 G (zs Z) → XC Z y.cls bytes none → V (zat Z 0 0) ws lv 0 []) : MC l G y bytes maxL fr lc mc ms As ws post := by
  intro sz
  refine Met.ofW (cc := bytes) (maxL := maxL) (ret := none) hy rfl ?_
  intro p e s m args below meth c s₁ B hml hv
  obtain ⟨rfl, hsz, hP, hK, hD0⟩ := hv
  have hts := atoms_spec (ws := Cond.code y bytes maxL none :: tb) B.pre
  have hown : s.vm.findClass y.cls = some m.cls := findClass_of_methodNamed B.named
  have hin : meth.name = "<init>" := ((name_of_methodNamed B.named B.method).1).trans hyn
  subst hsz
  have hD := hD0.self (sz := s.heap.size)
  have hS : va_S (va_A ws s.heap.size) s.heap s.heap [] := va_S.rf
  have hl := lv_entry As (n := maxL) hlen
  rw [hlv] at hl
  rw [lg_entry_eq]
  exact body (p, l, e, { frames := fr, cells := mc, slots := ms, locals := lc }, s, m, As.toArray, below, meth, c, G, va_A ws s.heap.size, maxL, MQ below (va_Qv post (fun w t => va_P G.1 vwCl w t.heap ∧ va_D (va_A ws s.heap.size) w) (va_A ws s.heap.size)) As.toArray s mc ms (va_A ws s.heap.size), 0, 0) rfl rfl rfl rfl rfl rfl rfl rfl rfl hin hK ⟨B.exec, B.bytes, hml, hown, fun w hw => hts w (List.mem_cons_of_mem _ hw), B.returns, B.notSynchronized, hK.1⟩ s.heap [] _ hP hD hS hl
theorem V.cret {Z : Cx} {k t mc ms : Nat} {own : String} {cc : ByteArray} {rt : Option FieldType} {ws ws0 : va_W} {lv : List (Nat × Value)} {pc : Nat} {G : Gx} {post : va_W → Prop} (X : XC Z own cc rt) (hG : zG Z = G) (hA : zA Z = va_A ws0 (zs Z).heap.size) (hQ : zQ Z = MQ (zb Z) (va_Qv post (fun w t => va_P G.1 vwCl w t.heap ∧ va_D (va_A ws0 (zs Z).heap.size) w) (va_A ws0 (zs Z).heap.size)) (za Z) (zs Z) mc ms (va_A ws0 (zs Z).heap.size)) (hr : rt = none) (hk : k = mc) (ht : t = ms) (hd : decode cc pc = .ok (.return_, 1)) (hp : post ws) : V (zat Z k t) ws lv pc [] := by
  intro H locs ls hP hD hS hl
  obtain ⟨p, l, e, R, s, m, args, below, meth, c, G', A, nL, Q, ck, ct⟩ := Z
  dsimp only [zG, zA, zk, zt, zQ, zb, za, zs, zp, zl, ze, zR, zm, zM, zc, zn] at *
  subst hG hA hQ hr hk ht
  exact W.vret (hlocks := X.lk) X.x X.b X.r (fun t ht hW => ⟨⟨ws, rfl, hp, by rw [ht]; exact hP, hD⟩, hS.F ht⟩) hS.2.2 hd
/-- behind a constructor's call -/
theorem V.backC {Z : Cx} {k t mc ms : Nat} {own : String} {cc : ByteArray} {rt : Option FieldType} {ws wc wr : va_W} {lv : List (Nat × Value)} {pc : Nat} {st rest : List Value} {G : Gx} {post : va_W → Prop} {H : Heap} {locs : List Loc} {ls : Array Slot} {a : Array Value} (X : XC Z own cc rt) (hG : zG Z = G) (hA : ∀ q, (zs Z).heap.size ≤ q → zA Z q) (isC isR : List Nat) (hC : isC.map (fun i => ws[i]?) = wc.map some) (hR : isR.map (fun i => ws[i]?) = wr.map some) (hn : va_nd isR = true) (hdis : ∀ i ∈ isR, i ∉ isC)
    (hP : va_P (zG Z).1 vwCl ws H) (hD : va_D (zA Z) ws) (hS : va_S (zA Z) (zs Z).heap H locs) (hl : lv_has ls (zn Z) lv)
    (hr : va_Run (zp Z) (zl Z) (ze Z) (zR Z) (zs Z) (zm Z) (za Z) (zb Z) (zM Z) (zc Z) H locs k t mc ms (F0 (zm Z) pc ls st) rest (va_Qv post (fun w t => va_P G.1 vwCl w t.heap ∧ va_D (va_A wc H.size) w) (va_A wc H.size) a) (va_A wc H.size))
    (kk : ∀ w, post w → V (zat Z (k + mc) (t + ms)) (wr ++ w) lv (pc + 3) rest) : W (zp Z) (zl Z) (ze Z) (zR Z) (zs Z) (zm Z) (za Z) (zb Z) (zM Z) (zc Z) H locs k t (zQ Z) (F0 (zm Z) pc ls st) := by
  have hF := va_free hD hS hA isC hC
  subst hG
  refine va_callv hr hS (fun q _ h => hF q h) hF (fun w t H1 locs1 ht hvm hp hB hz hk hS1 => ?_)
  obtain ⟨hP1, hD1⟩ := hB
  rw [ht] at hP1
  obtain ⟨hPj, hDj⟩ := va_join hP hD isC isR hC hR hn hdis hk hF hP1 hD1
  exact kk w hp H1 locs1 ls hPj hDj hS1 hl
theorem MC.blind {G : Gx} {As : List Value} {ws : va_W} {sz : Nat} : FrameBlind (va_Pc As (fun U => U.heap.size = sz ∧ va_P G.1 vwCl ws U.heap ∧ K2 G U ∧ va_D (fun _ => True) ws)) := by
  intro a U g mk q
  obtain ⟨q0, q1, qP, qK, qD⟩ := q
  exact ⟨q0, q1, qP, K2.same (u := U) (U := U.calling g mk a) rfl qK, qD⟩
theorem MC.pre {G : Gx} {As : List Value} {ws : va_W} {s : State} {H : Heap} {A : Nat → Prop} (hP : va_P G.1 vwCl ws H) (hK : K2 G s) (hD : va_D A ws) : ∀ U : State, U.heap = H → s.WarmedH U.vm → va_Pc As (fun U => U.heap.size = H.size ∧ va_P G.1 vwCl ws U.heap ∧ K2 G U ∧ va_D (fun _ => True) ws) As.toArray U := fun U hU hW => ⟨rfl, by rw [hU], by rw [hU]; exact hP, hK.warm hW, hD.weaken (fun _ _ _ _ => trivial)⟩
theorem mapF {ws wc : va_W} {isC : List Nat} (hC : isC.map (fun i => ws[i]?) = wc.map some) : isC.filterMap (fun i => ws[i]?) = wc := by
  have h : isC.filterMap (fun i => ws[i]?) = (isC.map (fun i => ws[i]?)).filterMap id := by rw [List.filterMap_map]; rfl
  rw [h, hC, List.filterMap_map]
  exact List.filterMap_some
/-- a constructor's call -/
theorem V.callI {Z : Cx} {k t mc ms : Nat} {own : String} {cc : ByteArray} {rt : Option FieldType} {ws wc wr : va_W} {lv : List (Nat × Value)} {pc : Nat} {st rest : List Value} {post : va_W → Prop} {y : MethodName} {bytes : ByteArray} {maxL fr lc index b n : Nat} {As : List Value} (X : XC Z own cc rt) (hK : K2 (zG Z) (zs Z)) (hA : ∀ q, (zs Z).heap.size ≤ q → zA Z q) (hM : MC (zl Z) (zG Z) y bytes maxL fr lc mc ms (.ref b :: As) wc post) (w1 : Cond.methodLink own index y ∈ tb) (w2 : Cond.instanceMethod y ∈ tb) (w4 : Cond.initialized y.cls ∈ tb) (w5 : Cond.code y bytes maxL none ∈ tb) (hyn : y.name = "<init>") (hds : y.cls ≠ "java/lang/invoke/MethodHandle" ∧ y.cls ≠ "java/lang/invoke/VarHandle" ∧ (parseMethodDescriptor y.desc).map (fun d => d.parameters.length) = some n) (hn : As.length = n)
    (isC isR : List Nat) (hC : isC.map (fun i => ws[i]?) = wc.map some) (hR : isR.map (fun i => ws[i]?) = wr.map some) (hnC : va_nd isC = true) (hnR : va_nd isR = true) (hdis : ∀ i ∈ isR, i ∉ isC) (hR1 : fr + 1 ≤ (zR Z).frames) (hR2 : 8 + (maxL + 11) + lc ≤ (zR Z).locals) (hst : st = As.reverse ++ .ref b :: rest) (hcat : (rest.map fun v => v.category).sum ≤ 8) (hcs : k + mc ≤ (zR Z).cells) (hss : t + ms ≤ (zR Z).slots) (hd : decode cc pc = .ok (.invokespecial index, 3))
    (kk : ∀ w, post w → V (zat Z (k + mc) (t + ms)) (wr ++ w) lv (pc + 3) rest) : V (zat Z k t) ws lv pc st := by
  intro H locs ls hP hD hS hl
  have hPc := hP.sub isC (mapF hC)
  have hDc := hD.sub isC hnC hC
  exact V.backC X rfl hA isC isR hC hR hnR hdis hP hD hS hl (va_runI (As := As) (rest := rest) ⟨X.x, X.b, X.ml, X.o, X.t⟩ (hM H.size) ⟨callB_of n X.t (tb_GoodIn w5) rfl rfl rfl (X.t _ w4) (X.t _ w1) hds ⟨hR1, hR2⟩, hyn, X.t _ w2⟩ ⟨MC.blind, MC.pre hPc hK hDc⟩ rfl hn hl.1 hst (lv_room hcat) hd ⟨hcs, hss⟩) kk
theorem V.callIN {Z : Cx} {k t mc ms : Nat} {own host : String} {cc : ByteArray} {rt : Option FieldType} {ws wc wr : va_W} {lv : List (Nat × Value)} {pc : Nat} {st rest : List Value} {post : va_W → Prop} {y : MethodName} {bytes : ByteArray} {maxL fr lc index b n : Nat} {As : List Value} (X : XC Z own cc rt) (hK : K2 (zG Z) (zs Z)) (hA : ∀ q, (zs Z).heap.size ≤ q → zA Z q) (hM : MC (zl Z) (zG Z) y bytes maxL fr lc mc ms (.ref b :: As) wc post) (w1 : va_Nw (.methodLinkNest own index y host) (zs Z)) (w2 : Cond.instanceMethod y ∈ tb) (w4 : Cond.initialized y.cls ∈ tb) (w5 : Cond.code y bytes maxL none ∈ tb) (hyn : y.name = "<init>") (hds : y.cls ≠ "java/lang/invoke/MethodHandle" ∧ y.cls ≠ "java/lang/invoke/VarHandle" ∧ (parseMethodDescriptor y.desc).map (fun d => d.parameters.length) = some n) (hn : As.length = n)
    (isC isR : List Nat) (hC : isC.map (fun i => ws[i]?) = wc.map some) (hR : isR.map (fun i => ws[i]?) = wr.map some) (hnC : va_nd isC = true) (hnR : va_nd isR = true) (hdis : ∀ i ∈ isR, i ∉ isC) (hR1 : fr + 1 ≤ (zR Z).frames) (hR2 : 8 + (maxL + 11) + lc ≤ (zR Z).locals) (hst : st = As.reverse ++ .ref b :: rest) (hcat : (rest.map fun v => v.category).sum ≤ 8) (hcs : k + mc ≤ (zR Z).cells) (hss : t + ms ≤ (zR Z).slots) (hd : decode cc pc = .ok (.invokespecial index, 3))
    (kk : ∀ w, post w → V (zat Z (k + mc) (t + ms)) (wr ++ w) lv (pc + 3) rest) : V (zat Z k t) ws lv pc st := by
  intro H locs ls hP hD hS hl
  have hPc := hP.sub isC (mapF hC)
  have hDc := hD.sub isC hnC hC
  exact V.backC X rfl hA isC isR hC hR hnR hdis hP hD hS hl (va_runIN (As := As) (rest := rest) ⟨X.x, X.b, X.ml, X.o, X.t⟩ (hM H.size) ⟨va_cnB n X.t (tb_GoodIn w5) rfl rfl rfl w1 (X.t _ w4) hds ⟨hR1, hR2⟩, hyn, X.t _ w2⟩ ⟨MC.blind, MC.pre hPc hK hDc⟩ rfl hn hl.1 hst (lv_room hcat) hd ⟨hcs, hss⟩) kk
/-- a method's call over a part of the world: the rest stays -/
theorem V.callF {Z : Cx} {own : String} {cc : ByteArray} {rt rt' : Option FieldType} {ws wc wr : va_W} {lv : List (Nat × Value)} {pc : Nat} {st rest : List Value} {post : Option Value → va_W → Prop} {y : MethodName} {bytes : ByteArray} {maxL fr lc index b ci n : Nat} {As : List Value} {fs : List Value} {T : u_T} {N : Nat} (X : XC Z own cc rt) (hM : MM (zl Z) (zG Z) y bytes maxL rt' fr lc (.ref b :: As) wc post) (cw : CV own index y bytes maxL rt' n) (hn : As.length = n) (q0 : Nat) (he : wc[q0]? = some (b, .inr (ci, fs))) (hc : vwCl[ci]? = some (y.cls, T, N))
    (isC isR : List Nat) (hC : isC.map (fun i => ws[i]?) = wc.map some) (hR : isR.map (fun i => ws[i]?) = wr.map some) (hnC : va_nd isC = true) (hnR : va_nd isR = true) (hdis : ∀ i ∈ isR, i ∉ isC) (hR1 : fr + 1 ≤ (zR Z).frames) (hR2 : 8 + (maxL + 11) + lc ≤ (zR Z).locals) (hk : zk Z ≤ (zR Z).cells) (ht : zt Z ≤ (zR Z).slots) (hst : st = As.reverse ++ .ref b :: rest) (hcat : (rest.map fun v => v.category).sum ≤ 8) (hd : decode cc pc = .ok (.invokevirtual index, 3))
    (kk : ∀ (rv : Option Value) (w : va_W), post rv w → V Z (wr ++ w) lv (pc + 3) (rv.toList ++ rest)) : V Z ws lv pc st := by
  intro H locs ls hP hD hS hl
  obtain ⟨w1, w2, w3, w4, w5, d1, d2, d3⟩ := cw
  have hPc := hP.sub isC (mapF hC)
  have hDc := hD.sub isC hnC hC
  have hr := va_runV (meth := zM Z) (cells := zk Z) (slots := zt Z) (locs := locs) (As := As) (rest := rest) ⟨X.x, X.b, X.ml, X.o, X.t⟩ hM ⟨callB_of n X.t (tb_GoodIn w5) rfl rfl rfl (X.t _ w4) (X.t _ w1) ⟨d1, d2, d3⟩ ⟨hR1, hR2⟩, X.t _ w2, X.t _ w3⟩ ⟨MM.blind, va_recv X.K.1 hPc hc he, MM.pre (As := .ref b :: As) hPc X.K hDc⟩ (g := F0 (zm Z) pc ls st) (below := zb Z) (e := ze Z) (p := zp Z) rfl hn hl.1 hst (lv_room hcat) hd ⟨hk, ht⟩
  intro T0 hT0 X0
  obtain ⟨v, st₀, t, T', L, h0, X', hL, e1, e2, ⟨⟨rv, w, hv, hp, hP1, hD1⟩, hz, hk1⟩, stp⟩ := hr T0 hT0 X0
  cases hv
  rw [h0] at hz hk1
  have hsub : ∀ q, a0 wc q → zA Z q := fun q ⟨j, e, h⟩ => hDc.2 j (q, e) h
  have hS1 : va_S (zA Z) (zs Z).heap T'.heap (locs ++ L) := ⟨Nat.le_trans hS.1 (by rw [e1]; exact hz), fun q h1 h2 => by rw [e1, hk1 q (Nat.lt_of_lt_of_le h1 hS.1) (fun z => h2 (hsub q z))]; exact hS.2.1 q h1 h2, fun q hq => by
      rcases List.mem_append.mp hq with h | h
      · exact hS.2.2 q h
      · exact hsub _ (hL q h)⟩
  have hj := va_join (w1 := w) (H1 := T'.heap) (A0 := fun _ => True) hP (hD.weaken (fun _ _ _ _ => trivial)) isC isR hC hR hnR hdis (fun q h1 h2 => by rw [e1]; exact hk1 q h1 (fun z => h2 (Or.inl z))) (fun _ _ => trivial) (by rw [e1]; exact hP1) (hD1.weaken (fun _ _ _ z => Or.inl z))
  have hDj : va_D (zA Z) (wr ++ w) := by
    refine ⟨hj.2.1, fun j q hq => ?_⟩
    rcases Nat.lt_or_ge j wr.length with hlt | hge
    · rw [List.getElem?_append_left hlt] at hq
      exact (hD.sub isR hnR hR).2 j q hq
    · rw [List.getElem?_append_right hge] at hq
      exact hsub _ (hD1.2 _ q hq)
  obtain ⟨t2, a1, b1⟩ := kk v w hp T'.heap (locs ++ L) ls hj.1 hDj hS1 hl T' rfl X'
  exact ⟨t2, stp t2 a1, b1⟩
/-- the law's own script -/
theorem V.sld {Z : Cx} {own : String} {cc : ByteArray} {rt : Option FieldType} {ws : va_W} {lv : List (Nat × Value)} {pc : Nat} {st : List Value} (X : XC Z own cc rt) {b L : Nat} {xs : Nat → Int32} (hX : va_X b L xs (zs Z) (zs Z).heap) (hbl : b < (zs Z).heap.size) (hbA : ¬ zA Z b) {i : Int32} (hin : vp_in i L) (hd : decode cc pc = .ok (.iaload, 1)) (kk : V Z ws lv (pc + 1) (.int (xs i.toNatClampNeg) :: st)) : V Z ws lv pc (.int i :: .ref b :: st) := fun H locs ls hP hD hS hl => va_sld X.x X.b hX hbl hbA hS hin hd (kk H locs ls hP hD hS hl)
theorem V.slen {Z : Cx} {own : String} {cc : ByteArray} {rt : Option FieldType} {ws : va_W} {lv : List (Nat × Value)} {pc : Nat} {st : List Value} (X : XC Z own cc rt) {b L : Nat} {xs : Nat → Int32} (hX : va_X b L xs (zs Z) (zs Z).heap) (hbl : b < (zs Z).heap.size) (hbA : ¬ zA Z b) (hd : decode cc pc = .ok (.arraylength, 1)) (kk : V Z ws lv (pc + 1) (.int (nI L) :: st)) : V Z ws lv pc (.ref b :: st) := fun H locs ls hP hD hS hl => va_slen X.x X.b hX hbl hbA hS hd (kk H locs ls hP hD hS hl)
