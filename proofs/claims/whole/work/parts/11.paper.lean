/-- the start, for a method of a class of the JDK's -/
theorem MM.ofF {l : Launch} {G : Gx} {y : MethodName} {bytes : ByteArray} {maxL : Nat} {rt : Option FieldType} {fr lc : Nat} {As : List Value} {ws : va_W} {post : Option Value → va_W → Prop} {lv : List (Nat × Value)}
    (hy : plainFor y = true) (hlv : lv_args 0 As = lv) (hlen : (lg_sl As).length ≤ maxL)
    (body : ∀ Z : Cx, (zR Z).frames = fr → (zR Z).locals = lc → zl Z = l → zG Z = G → zn Z = maxL → zk Z = 0 → zt Z = 0 → zA Z = a0 ws → zQ Z = MQ (zb Z) (Qo G ws post) (za Z) (zs Z) 0 0 (a0 ws) → XC Z y.cls bytes rt → V Z ws lv 0 []) : MM l G y bytes maxL rt fr lc As ws post := by
  refine va_MetF (cc := bytes) (maxL := maxL) (ret := rt) hy rfl ?_
  intro p e s m args below meth c s₁ B hml hv
  obtain ⟨rfl, hP, hK, hD0⟩ := hv
  have hts := atoms_spec (ws := Cond.code y bytes maxL rt :: tb) B.pre
  have hown : s.vm.findClass y.cls = some m.cls := findClass_of_methodNamed B.named
  have hD : va_D (a0 ws) ws := ⟨hD0.1, fun k q hk => ⟨k, q.2, hk⟩⟩
  have hS : va_S (a0 ws) s.heap s.heap [] := va_S.rf
  have hl := lv_entry As (n := maxL) hlen
  rw [hlv] at hl
  rw [lg_entry_eq]
  exact body (zmk p l e fr lc s m As.toArray below meth c G ws maxL post) rfl rfl rfl rfl rfl rfl rfl rfl rfl ⟨B.exec, B.bytes, hml, hown, fun w hw => hts w (List.mem_cons_of_mem _ hw), B.returns, B.notSynchronized, hK⟩ s.heap [] _ hP hD hS hl

theorem d_jabs_0 : decode c_jabs 0 = .ok (.lload_n 0, 1) := by decide +kernel
theorem d_jabs_1 : decode c_jabs 1 = .ok (.lconst 0, 1) := by decide +kernel
theorem d_jabs_2 : decode c_jabs 2 = .ok (.lcmp, 1) := by decide +kernel
theorem d_jabs_3 : decode c_jabs 3 = .ok (.ifCond .ge 8, 3) := by decide +kernel
theorem d_jabs_6 : decode c_jabs 6 = .ok (.lload_n 0, 1) := by decide +kernel
theorem d_jabs_7 : decode c_jabs 7 = .ok (.lneg, 1) := by decide +kernel
theorem d_jabs_8 : decode c_jabs 8 = .ok (.goto 4, 3) := by decide +kernel
theorem d_jabs_11 : decode c_jabs 11 = .ok (.lload_n 0, 1) := by decide +kernel
theorem d_jabs_12 : decode c_jabs 12 = .ok (.lreturn, 1) := by decide +kernel
theorem d_jfmod_0 : decode c_jfmod 0 = .ok (.lload_n 0, 1) := by decide +kernel
theorem d_jfmod_1 : decode c_jfmod 1 = .ok (.lload_n 2, 1) := by decide +kernel
theorem d_jfmod_2 : decode c_jfmod 2 = .ok (.lrem, 1) := by decide +kernel
theorem d_jfmod_3 : decode c_jfmod 3 = .ok (.lstore 4, 2) := by decide +kernel
theorem d_jfmod_5 : decode c_jfmod 5 = .ok (.lload_n 0, 1) := by decide +kernel
theorem d_jfmod_6 : decode c_jfmod 6 = .ok (.lload_n 2, 1) := by decide +kernel
theorem d_jfmod_7 : decode c_jfmod 7 = .ok (.lxor, 1) := by decide +kernel
theorem d_jfmod_8 : decode c_jfmod 8 = .ok (.lconst 0, 1) := by decide +kernel
theorem d_jfmod_9 : decode c_jfmod 9 = .ok (.lcmp, 1) := by decide +kernel
theorem d_jfmod_10 : decode c_jfmod 10 = .ok (.ifCond .ge 15, 3) := by decide +kernel
theorem d_jfmod_13 : decode c_jfmod 13 = .ok (.lload 4, 2) := by decide +kernel
theorem d_jfmod_15 : decode c_jfmod 15 = .ok (.lconst 0, 1) := by decide +kernel
theorem d_jfmod_16 : decode c_jfmod 16 = .ok (.lcmp, 1) := by decide +kernel
theorem d_jfmod_17 : decode c_jfmod 17 = .ok (.ifCond .eq 8, 3) := by decide +kernel
theorem d_jfmod_20 : decode c_jfmod 20 = .ok (.lload 4, 2) := by decide +kernel
theorem d_jfmod_22 : decode c_jfmod 22 = .ok (.lload_n 2, 1) := by decide +kernel
theorem d_jfmod_23 : decode c_jfmod 23 = .ok (.ladd, 1) := by decide +kernel
theorem d_jfmod_24 : decode c_jfmod 24 = .ok (.lreturn, 1) := by decide +kernel
theorem d_jfmod_25 : decode c_jfmod 25 = .ok (.lload 4, 2) := by decide +kernel
theorem d_jfmod_27 : decode c_jfmod 27 = .ok (.lreturn, 1) := by decide +kernel
theorem d_jmaxl_0 : decode c_jmaxl 0 = .ok (.lload_n 0, 1) := by decide +kernel
theorem d_jmaxl_1 : decode c_jmaxl 1 = .ok (.lload_n 2, 1) := by decide +kernel
theorem d_jmaxl_2 : decode c_jmaxl 2 = .ok (.lcmp, 1) := by decide +kernel
theorem d_jmaxl_3 : decode c_jmaxl 3 = .ok (.ifCond .lt 7, 3) := by decide +kernel
theorem d_jmaxl_6 : decode c_jmaxl 6 = .ok (.lload_n 0, 1) := by decide +kernel
theorem d_jmaxl_7 : decode c_jmaxl 7 = .ok (.goto 4, 3) := by decide +kernel
theorem d_jmaxl_10 : decode c_jmaxl 10 = .ok (.lload_n 2, 1) := by decide +kernel
theorem d_jmaxl_11 : decode c_jmaxl 11 = .ok (.lreturn, 1) := by decide +kernel
theorem d_jminl_0 : decode c_jminl 0 = .ok (.lload_n 0, 1) := by decide +kernel
theorem d_jminl_1 : decode c_jminl 1 = .ok (.lload_n 2, 1) := by decide +kernel
theorem d_jminl_2 : decode c_jminl 2 = .ok (.lcmp, 1) := by decide +kernel
theorem d_jminl_3 : decode c_jminl 3 = .ok (.ifCond .gt 7, 3) := by decide +kernel
theorem d_jminl_6 : decode c_jminl 6 = .ok (.lload_n 0, 1) := by decide +kernel
theorem d_jminl_7 : decode c_jminl 7 = .ok (.goto 4, 3) := by decide +kernel
theorem d_jminl_10 : decode c_jminl 10 = .ok (.lload_n 2, 1) := by decide +kernel
theorem d_jminl_11 : decode c_jminl 11 = .ok (.lreturn, 1) := by decide +kernel
theorem d_jmin_0 : decode c_jmin 0 = .ok (.iload_n 0, 1) := by decide +kernel
theorem d_jmin_1 : decode c_jmin 1 = .ok (.iload_n 1, 1) := by decide +kernel
theorem d_jmin_2 : decode c_jmin 2 = .ok (.if_icmp .gt 7, 3) := by decide +kernel
theorem d_jmin_5 : decode c_jmin 5 = .ok (.iload_n 0, 1) := by decide +kernel
theorem d_jmin_6 : decode c_jmin 6 = .ok (.goto 4, 3) := by decide +kernel
theorem d_jmin_9 : decode c_jmin 9 = .ok (.iload_n 1, 1) := by decide +kernel
theorem d_jmin_10 : decode c_jmin 10 = .ok (.ireturn, 1) := by decide +kernel
theorem d_jrot_0 : decode c_jrot 0 = .ok (.lload_n 0, 1) := by decide +kernel
theorem d_jrot_1 : decode c_jrot 1 = .ok (.iload_n 2, 1) := by decide +kernel
theorem d_jrot_2 : decode c_jrot 2 = .ok (.lshl, 1) := by decide +kernel
theorem d_jrot_3 : decode c_jrot 3 = .ok (.lload_n 0, 1) := by decide +kernel
theorem d_jrot_4 : decode c_jrot 4 = .ok (.iload_n 2, 1) := by decide +kernel
theorem d_jrot_5 : decode c_jrot 5 = .ok (.ineg, 1) := by decide +kernel
theorem d_jrot_6 : decode c_jrot 6 = .ok (.lushr, 1) := by decide +kernel
theorem d_jrot_7 : decode c_jrot 7 = .ok (.lor, 1) := by decide +kernel
theorem d_jrot_8 : decode c_jrot 8 = .ok (.lreturn, 1) := by decide +kernel
set_option maxHeartbeats 4000000 in
set_option maxRecDepth 100000 in
theorem k_jabs (l : Launch) (G : Gx) (ws : va_W) (x : Int64) : MM l G ⟨"java/lang/Math", "abs", "(J)J"⟩ prog_16_method_61_code 2 (some .long) 0 0 [.long x] (ws) (fun rv w => rv = some (.long (if x < 0 then -x else x)) ∧ w = ws) := by
  refine MM.ofF (lv := [(0, .long x)]) (by decide +kernel) rfl (Nat.le_of_ble_eq_true rfl) ?_
  intro Z hRf hRl hl hG hn hk ht hA hQ X
  subst hG hl
  have X : XC Z "java/lang/Math" prog_16_method_61_code (some .long) := X
  have hk0 : zk Z ≤ (zR Z).cells := hk ▸ Nat.zero_le _
  have ht0 : zt Z ≤ (zR Z).slots := ht ▸ Nat.zero_le _
  refine V.lload_n X 0 d_jabs_0 rfl rfl ?_
  refine V.lconst X (v := lN 0) d_jabs_1 (by decide) ?_
  refine V.lif_ge X 11 d_jabs_2 d_jabs_3 (by decide) (fun c2 => ?_) (fun c2 => ?_)
  · refine V.lload_n X 0 d_jabs_11 rfl rfl ?_
    exact V.lret X rfl hA hk ht hQ rfl d_jabs_12 (⟨by first | (rw [if_neg (Int64.not_lt.mpr (show (0 : Int64) ≤ x from c2))]) | (rw [if_pos (Int64.not_le.mp (show ¬ (0 : Int64) ≤ x from c2))]), rfl⟩)
  · refine V.lload_n X 0 d_jabs_6 rfl rfl ?_
    refine V.lneg X d_jabs_7 ?_
    refine V.goto X 12 d_jabs_8 (by decide) ?_
    exact V.lret X rfl hA hk ht hQ rfl d_jabs_12 (⟨by first | (rw [if_neg (Int64.not_lt.mpr (show (0 : Int64) ≤ x from c2))]) | (rw [if_pos (Int64.not_le.mp (show ¬ (0 : Int64) ≤ x from c2))]), rfl⟩)

set_option maxHeartbeats 4000000 in
set_option maxRecDepth 100000 in
theorem k_jmaxl (l : Launch) (G : Gx) (ws : va_W) (x y : Int64) : MM l G ⟨"java/lang/Math", "max", "(JJ)J"⟩ prog_16_method_66_code 4 (some .long) 0 0 [.long x, .long y] (ws) (fun rv w => rv = some (.long (if x < y then y else x)) ∧ w = ws) := by
  refine MM.ofF (lv := [(0, .long x), (2, .long y)]) (by decide +kernel) rfl (Nat.le_of_ble_eq_true rfl) ?_
  intro Z hRf hRl hl hG hn hk ht hA hQ X
  subst hG hl
  have X : XC Z "java/lang/Math" prog_16_method_66_code (some .long) := X
  have hk0 : zk Z ≤ (zR Z).cells := hk ▸ Nat.zero_le _
  have ht0 : zt Z ≤ (zR Z).slots := ht ▸ Nat.zero_le _
  refine V.lload_n X 0 d_jmaxl_0 rfl rfl ?_
  refine V.lload_n X 1 d_jmaxl_1 rfl rfl ?_
  refine V.lif_lt X 10 d_jmaxl_2 d_jmaxl_3 (by decide) (fun c2 => ?_) (fun c2 => ?_)
  · refine V.lload_n X 1 d_jmaxl_10 rfl rfl ?_
    exact V.lret X rfl hA hk ht hQ rfl d_jmaxl_11 (⟨by first | rw [if_pos c2] | rw [if_neg c2], rfl⟩)
  · refine V.lload_n X 0 d_jmaxl_6 rfl rfl ?_
    refine V.goto X 11 d_jmaxl_7 (by decide) ?_
    exact V.lret X rfl hA hk ht hQ rfl d_jmaxl_11 (⟨by first | rw [if_pos c2] | rw [if_neg c2], rfl⟩)

set_option maxHeartbeats 4000000 in
set_option maxRecDepth 100000 in
theorem k_jminl (l : Launch) (G : Gx) (ws : va_W) (x y : Int64) : MM l G ⟨"java/lang/Math", "min", "(JJ)J"⟩ prog_16_method_70_code 4 (some .long) 0 0 [.long x, .long y] (ws) (fun rv w => rv = some (.long (if y < x then y else x)) ∧ w = ws) := by
  refine MM.ofF (lv := [(0, .long x), (2, .long y)]) (by decide +kernel) rfl (Nat.le_of_ble_eq_true rfl) ?_
  intro Z hRf hRl hl hG hn hk ht hA hQ X
  subst hG hl
  have X : XC Z "java/lang/Math" prog_16_method_70_code (some .long) := X
  have hk0 : zk Z ≤ (zR Z).cells := hk ▸ Nat.zero_le _
  have ht0 : zt Z ≤ (zR Z).slots := ht ▸ Nat.zero_le _
  refine V.lload_n X 0 d_jminl_0 rfl rfl ?_
  refine V.lload_n X 1 d_jminl_1 rfl rfl ?_
  refine V.lif_gt X 10 d_jminl_2 d_jminl_3 (by decide) (fun c2 => ?_) (fun c2 => ?_)
  · refine V.lload_n X 1 d_jminl_10 rfl rfl ?_
    exact V.lret X rfl hA hk ht hQ rfl d_jminl_11 (⟨by first | rw [if_pos c2] | rw [if_neg c2], rfl⟩)
  · refine V.lload_n X 0 d_jminl_6 rfl rfl ?_
    refine V.goto X 11 d_jminl_7 (by decide) ?_
    exact V.lret X rfl hA hk ht hQ rfl d_jminl_11 (⟨by first | rw [if_pos c2] | rw [if_neg c2], rfl⟩)

set_option maxHeartbeats 4000000 in
set_option maxRecDepth 100000 in
theorem k_jmin (l : Launch) (G : Gx) (ws : va_W) (x y : Nat) (hx : x < 2 ^ 31) (hy : y < 2 ^ 31) : MM l G ⟨"java/lang/Math", "min", "(II)I"⟩ prog_16_method_69_code 2 (some .int) 0 0 [.int (nI x), .int (nI y)] (ws) (fun rv w => rv = some (.int (nI (min x y))) ∧ w = ws) := by
  refine MM.ofF (lv := [(0, .int (nI x)), (1, .int (nI y))]) (by decide +kernel) rfl (Nat.le_of_ble_eq_true rfl) ?_
  intro Z hRf hRl hl hG hn hk ht hA hQ X
  subst hG hl
  have X : XC Z "java/lang/Math" prog_16_method_69_code (some .int) := X
  have hk0 : zk Z ≤ (zR Z).cells := hk ▸ Nat.zero_le _
  have ht0 : zt Z ≤ (zR Z).slots := ht ▸ Nat.zero_le _
  refine V.iload_n X 0 d_jmin_0 rfl rfl ?_
  refine V.iload_n X 1 d_jmin_1 rfl rfl ?_
  refine V.icmp_gtN X 9 d_jmin_2 (by decide) (by omega) (by omega) (fun c2 => ?_) (fun c2 => ?_)
  · refine V.iload_n X 1 d_jmin_9 rfl rfl ?_
    exact V.iret X rfl hA hk ht hQ rfl d_jmin_10 (⟨by congr 3; omega, rfl⟩)
  · refine V.iload_n X 0 d_jmin_5 rfl rfl ?_
    refine V.goto X 10 d_jmin_6 (by decide) ?_
    exact V.iret X rfl hA hk ht hQ rfl d_jmin_10 (⟨by congr 3; omega, rfl⟩)

set_option maxHeartbeats 4000000 in
set_option maxRecDepth 100000 in
theorem k_jrot (l : Launch) (G : Gx) (ws : va_W) (x : Int64) (n : Int32) : MM l G ⟨"java/lang/Long", "rotateLeft", "(JI)J"⟩ prog_15_method_51_code 3 (some .long) 0 0 [.long x, .int n] (ws) (fun rv w => rv = some (.long ((x <<< (n.toInt64 &&& 63)) ||| (x.toUInt64 >>> ((-n).toInt64.toUInt64 &&& Int64.toUInt64 63)).toInt64)) ∧ w = ws) := by
  refine MM.of (lv := [(0, .long x), (2, .int n)]) (by decide +kernel) rfl (Nat.le_of_ble_eq_true rfl) ?_
  intro Z hRf hRl hl hG hn hk ht hA hQ X
  subst hG hl
  have X : XC Z "java/lang/Long" prog_15_method_51_code (some .long) := X
  have hk0 : zk Z ≤ (zR Z).cells := hk ▸ Nat.zero_le _
  have ht0 : zt Z ≤ (zR Z).slots := ht ▸ Nat.zero_le _
  refine V.lload_n X 0 d_jrot_0 rfl rfl ?_
  refine V.iload_n X 1 d_jrot_1 rfl rfl ?_
  refine V.lshl X d_jrot_2 rfl ?_
  refine V.lload_n X 0 d_jrot_3 rfl rfl ?_
  refine V.iload_n X 1 d_jrot_4 rfl rfl ?_
  refine V.ineg X d_jrot_5 ?_
  refine V.lushr X d_jrot_6 rfl ?_
  refine V.lor X d_jrot_7 ?_
  exact V.lret X rfl hA hk ht hQ rfl d_jrot_8 (⟨rfl, rfl⟩)

/-- Math.floorMod, as its code has it -/
def fmodL (x y : Int64) : Int64 := if (x ^^^ y) < 0 ∧ ¬ (x - x / y * y) = 0 then (x - x / y * y) + y else x - x / y * y
set_option maxHeartbeats 4000000 in
set_option maxRecDepth 100000 in
theorem k_jfmod (l : Launch) (G : Gx) (ws : va_W) (x y : Int64) (hy : ¬ y = 0) : MM l G ⟨"java/lang/Math", "floorMod", "(JJ)J"⟩ prog_16_method_52_code 6 (some .long) 0 0 [.long x, .long y] (ws) (fun rv w => rv = some (.long (fmodL x y)) ∧ w = ws) := by
  refine MM.ofF (lv := [(0, .long x), (2, .long y)]) (by decide +kernel) rfl (Nat.le_of_ble_eq_true rfl) ?_
  intro Z hRf hRl hl hG hn hk ht hA hQ X
  subst hG hl
  have X : XC Z "java/lang/Math" prog_16_method_52_code (some .long) := X
  have hk0 : zk Z ≤ (zR Z).cells := hk ▸ Nat.zero_le _
  have ht0 : zt Z ≤ (zR Z).slots := ht ▸ Nat.zero_le _
  refine V.lload_n X 0 d_jfmod_0 rfl rfl ?_
  refine V.lload_n X 1 d_jfmod_1 rfl rfl ?_
  refine V.lrem X d_jfmod_2 (by exact hy) ?_
  refine V.lstore X (lv' := [(4, .long (x - x / y * y)), (0, .long x), (2, .long y)]) d_jfmod_3 (ltn hn (by decide)) rfl ?_
  refine V.lload_n X 1 d_jfmod_5 rfl rfl ?_
  refine V.lload_n X 2 d_jfmod_6 rfl rfl ?_
  refine V.lxor X d_jfmod_7 ?_
  refine V.lconst X (v := lN 0) d_jfmod_8 (by decide) ?_
  refine V.lif_ge X 25 d_jfmod_9 d_jfmod_10 (by decide) (fun c9 => ?_) (fun c9 => ?_)
  · refine V.lload X 0 d_jfmod_25 rfl ?_
    exact V.lret X rfl hA hk ht hQ rfl d_jfmod_27 (⟨by first | (rw [fmodL, if_neg (fun q => absurd (show (0 : Int64) ≤ x ^^^ y from c9) (Int64.not_le.mpr q.1))]; done) | (rw [fmodL, if_neg (fun q => q.2 (show (x - x / y * y) = 0 from c16))]; done), rfl⟩)
  · refine V.lload X 0 d_jfmod_13 rfl ?_
    refine V.lconst X (v := lN 0) d_jfmod_15 (by decide) ?_
    refine V.lif_eq X 25 d_jfmod_16 d_jfmod_17 (by decide) (fun c16 => ?_) (fun c16 => ?_)
    · refine V.lload X 0 d_jfmod_25 rfl ?_
      exact V.lret X rfl hA hk ht hQ rfl d_jfmod_27 (⟨by first | (rw [fmodL, if_neg (fun q => absurd (show (0 : Int64) ≤ x ^^^ y from c9) (Int64.not_le.mpr q.1))]; done) | (rw [fmodL, if_neg (fun q => q.2 (show (x - x / y * y) = 0 from c16))]; done), rfl⟩)
    · refine V.lload X 0 d_jfmod_20 rfl ?_
      refine V.lload_n X 2 d_jfmod_22 rfl rfl ?_
      refine V.ladd X d_jfmod_23 ?_
      exact V.lret X rfl hA hk ht hQ rfl d_jfmod_24 (⟨by rw [fmodL, if_pos ⟨Int64.not_le.mp (show ¬ (0 : Int64) ≤ x ^^^ y from c9), (show ¬ (x - x / y * y) = 0 from c16)⟩], rfl⟩)

theorem b8_and {n : Nat} (h : n < 256) : b8 n &&& nI 255 = nI n := sc_k8 n h
/-- the bytes L behind the n first of f, 6000 at most -/
def putsF (f : Nat → Nat) (n : Nat) (L : List Nat) : Nat → Nat := fun j => if n ≤ j ∧ j < n + L.length ∧ j < 6000 then L.getD (j - n) 0 else f j
def pAddsG (lk bk ak : Nat) (σ : St) (L : List Nat) : St := sB (sN (sA σ ak (putsF (gA σ ak) (gN σ lk) L)) lk (min 6000 (gN σ lk + L.length))) bk (gB σ bk || decide (6000 < gN σ lk + L.length))
theorem putsF_nil (f : Nat → Nat) (n : Nat) : putsF f n [] = f := by
  funext j; simp only [putsF, List.length_nil]; rw [if_neg (by omega)]
theorem putsF_app (f : Nat → Nat) (n : Nat) (L M : List Nat) (hn : n ≤ 6000) : putsF (putsF f n L) (min 6000 (n + L.length)) M = putsF f n (L ++ M) := by
  funext j
  simp only [putsF, List.length_append]
  by_cases h1 : n ≤ j ∧ j < n + L.length ∧ j < 6000
  · rw [if_neg (by omega), if_pos h1, if_pos (by omega), List.getD_eq_getElem?_getD, List.getD_eq_getElem?_getD, List.getElem?_append_left (by omega)]
  · by_cases h2 : min 6000 (n + L.length) ≤ j ∧ j < min 6000 (n + L.length) + M.length ∧ j < 6000
    · rw [if_pos h2, if_pos (by omega), List.getD_eq_getElem?_getD, List.getD_eq_getElem?_getD, List.getElem?_append_right (by omega)]
      congr 2; omega
    · rw [if_neg h2, if_neg h1, if_neg (by omega)]
theorem pAddsG_nil (lk bk ak : Nat) (σ : St) (h : gN σ lk ≤ 6000) : pAddsG lk bk ak σ [] = σ := by
  simp only [pAddsG, putsF_nil, List.length_nil, Nat.add_zero, Nat.min_eq_right h]
  rw [show decide (6000 < gN σ lk) = false by simp; omega, Bool.or_false, sA_self, sN_self, sB_self]
theorem pAddsG_app (lk bk ak : Nat) (σ : St) (L M : List Nat) (h : gN σ lk ≤ 6000) : pAddsG lk bk ak (pAddsG lk bk ak σ L) M = pAddsG lk bk ak σ (L ++ M) := by
  have e1 : gA (pAddsG lk bk ak σ L) ak = putsF (gA σ ak) (gN σ lk) L := by simp only [pAddsG, gAsB, gAsN, gAsA, if_pos]
  have e2 : gN (pAddsG lk bk ak σ L) lk = min 6000 (gN σ lk + L.length) := by simp only [pAddsG, gNsB, gNsN, if_pos]
  have e3 : gB (pAddsG lk bk ak σ L) bk = (gB σ bk || decide (6000 < gN σ lk + L.length)) := by simp only [pAddsG, gBsB, if_pos]
  have e4 : (gB σ bk || decide (6000 < gN σ lk + L.length) || decide (6000 < min 6000 (gN σ lk + L.length) + M.length)) = (gB σ bk || decide (6000 < gN σ lk + (L ++ M).length)) := by
    rw [Bool.or_assoc]; congr 1; rw [List.length_append, ← Bool.decide_or]; congr 1; apply propext; omega
  have e5 : min 6000 (min 6000 (gN σ lk + L.length) + M.length) = min 6000 (gN σ lk + (L ++ M).length) := by rw [List.length_append]; omega
  rw [pAddsG, e1, e2, e3, putsF_app _ _ _ _ h, e4, e5, pAddsG, pAddsG]
  simp only [sA, sN, sB, bx_uu]
theorem pAddsG_le {lk bk ak : Nat} {σ : St} {L : List Nat} : gN (pAddsG lk bk ak σ L) lk ≤ 6000 := by
  simp only [pAddsG, gNsB, gNsN, if_pos]; omega
/-- bytes behind the draft; behind the paper -/
abbrev pAdds (σ : St) (L : List Nat) : St := pAddsG 3 1 13 σ L
abbrev pAddsP (σ : St) (L : List Nat) : St := pAddsG 2 0 12 σ L
theorem pAddsG_1f (lk bk ak : Nat) (σ : St) (b : Nat) (h : gN σ lk = 6000) : sB σ bk true = pAddsG lk bk ak σ [b] := by
  have e : putsF (gA σ ak) (gN σ lk) [b] = gA σ ak := by funext j; simp only [putsF]; rw [if_neg (by omega)]
  simp only [pAddsG, e, List.length_cons, List.length_nil]
  rw [show min 6000 (gN σ lk + (0 + 1)) = gN σ lk by omega, sA_self, sN_self, show decide (6000 < gN σ lk + (0 + 1)) = true by simp; omega, Bool.or_true]
theorem pAddsG_1n (lk bk ak : Nat) (σ : St) (b : Nat) (h : gN σ lk < 6000) : sN (sA σ ak (va_up (gA σ ak) (gN σ lk) b)) lk (gN σ lk + 1) = pAddsG lk bk ak σ [b] := by
  have e : putsF (gA σ ak) (gN σ lk) [b] = va_up (gA σ ak) (gN σ lk) b := by
    funext j; simp only [putsF, va_up, List.length_cons, List.length_nil]
    by_cases hj : j = gN σ lk
    · subst hj; rw [if_pos (by omega), if_pos rfl, Nat.sub_self]; rfl
    · rw [if_neg (by omega), if_neg hj]
  simp only [pAddsG, e, List.length_cons, List.length_nil]
  rw [show min 6000 (gN σ lk + (0 + 1)) = gN σ lk + 1 by omega, show decide (6000 < gN σ lk + (0 + 1)) = false by simp; omega, Bool.or_false]
  have : gB σ bk = gB (sN (sA σ ak (va_up (gA σ ak) (gN σ lk) b)) lk (gN σ lk + 1)) bk := rfl
  rw [this, sB_self]

set_option maxHeartbeats 4000000 in
set_option maxRecDepth 100000 in
theorem c_clearP (l : Launch) (G : Gx) (a : Nat → Nat) (σ : St)  : MM l G ⟨"NestedDeeds$Paper", "clear", "()V"⟩ prog_7_method_2_code 1 none 0 0 [.ref (a 7)] (cw G a σ) (fun rv w => rv = none ∧ w = cw G a (sB (sN σ 2 0) 0 false)) := by
  refine MM.of (lv := [(0, .ref (a 7))]) (by decide +kernel) rfl (Nat.le_of_ble_eq_true rfl) ?_
  intro Z hRf hRl hl hG hn hk ht hA hQ X
  subst hG hl
  have X : XC Z "NestedDeeds$Paper" prog_7_method_2_code none := X
  have hk0 : zk Z ≤ (zR Z).cells := hk ▸ Nat.zero_le _
  have ht0 : zt Z ≤ (zR Z).slots := ht ▸ Nat.zero_le _
  refine V.aload_n X 0 dX5_clear_0 rfl rfl ?_
  refine V.iconst X (v := nI 0) dX5_clear_1 (by decide) ?_
  refine Vp_c_7_length (x := 0) X tw_125 dX5_clear_2 ?_
  refine V.aload_n X 0 dX5_clear_5 rfl rfl ?_
  refine V.iconst X (v := nI 0) dX5_clear_6 (by decide) ?_
  refine V.topi (y := bI false) rfl ?_
  refine Vp_c_7_overfull (x := false) X tw_128 dX5_clear_7 ?_
  exact V.vret X rfl hA hk ht hQ rfl dX5_clear_10 (⟨rfl, rfl⟩)

set_option maxHeartbeats 4000000 in
set_option maxRecDepth 100000 in
theorem c_atP (l : Launch) (G : Gx) (a : Nat → Nat) (σ : St) (i : Nat) (hi : i < 2 ^ 31) (hl : gN σ 2 ≤ 6000) (hb : ∀ j, j < gN σ 2 → gA σ 12 j < 256) : MM l G ⟨"NestedDeeds$Paper", "at", "(I)I"⟩ prog_7_method_3_code 2 (some .int) 0 0 [.ref (a 7), .int (nI i)] (cw G a σ) (fun rv w => rv = some (.int (oI (if i < gN σ 2 then some (gA σ 12 i) else none))) ∧ w = cw G a σ) := by
  refine MM.of (lv := [(0, .ref (a 7)), (1, .int (nI i))]) (by decide +kernel) rfl (Nat.le_of_ble_eq_true rfl) ?_
  intro Z hRf hRl hl hG hn hk ht hA hQ X
  subst hG hl
  have X : XC Z "NestedDeeds$Paper" prog_7_method_3_code (some .int) := X
  have hk0 : zk Z ≤ (zR Z).cells := hk ▸ Nat.zero_le _
  have ht0 : zt Z ≤ (zR Z).slots := ht ▸ Nat.zero_le _
  refine V.iload_n X 1 dX5_at_0 rfl rfl ?_
  refine V.if_ltN X 25 dX5_at_1 (by decide) (by omega) (fun c1 => by exfalso; assumption) (fun c1 => ?_)
  refine V.iload_n X 1 dX5_at_4 rfl rfl ?_
  refine V.aload_n X 0 dX5_at_5 rfl rfl ?_
  refine Vg_c_7_length (x := gN σ 2) X tw_125 dX5_at_6 rfl ?_
  refine V.icmp_geN X 25 dX5_at_9 (by decide) (by omega) (by omega) (fun c9 => ?_) (fun c9 => ?_)
  · refine V.iconst X (v := -1) dX5_at_25 (by decide) ?_
    exact V.iret X rfl hA hk ht hQ rfl dX5_at_26 (⟨by first | (rw [if_pos (by omega), b8_and (hb _ (by omega))]; rfl) | (rw [if_neg (by omega)]; rfl), rfl⟩)
  · refine V.aload_n X 0 dX5_at_12 rfl rfl ?_
    refine Vg_c_7_bytes X tw_124 dX5_at_13 ?_
    refine V.iload_n X 1 dX5_at_16 rfl rfl ?_
    refine Va_c_pbytes (x := gA σ 12 i) X (by omega) dX5_at_17 rfl ?_
    refine V.sipush X (v := nI 255) dX5_at_18 (by decide) ?_
    refine V.iand X dX5_at_21 ?_
    refine V.goto X 26 dX5_at_22 (by decide) ?_
    exact V.iret X rfl hA hk ht hQ rfl dX5_at_26 (⟨by first | (rw [if_pos (by omega), b8_and (hb _ (by omega))]; rfl) | (rw [if_neg (by omega)]; rfl), rfl⟩)

set_option maxHeartbeats 4000000 in
set_option maxRecDepth 100000 in
theorem c_atRP (l : Launch) (G : Gx) (a : Nat → Nat) (σ : St) (i : Int32) (hl : gN σ 2 ≤ 6000) (hb : ∀ j, j < gN σ 2 → gA σ 12 j < 256) : MM l G ⟨"NestedDeeds$Paper", "at", "(I)I"⟩ prog_7_method_3_code 2 (some .int) 0 0 [.ref (a 7), .int i] (cw G a σ) (fun rv w => rv = some (.int (if hasD (gN σ 2) i = true then nI (gA σ 12 i.toNatClampNeg) else -1)) ∧ w = cw G a σ) := by
  refine MM.of (lv := [(0, .ref (a 7)), (1, .int i)]) (by decide +kernel) rfl (Nat.le_of_ble_eq_true rfl) ?_
  intro Z hRf hRl hl hG hn hk ht hA hQ X
  subst hG hl
  have X : XC Z "NestedDeeds$Paper" prog_7_method_3_code (some .int) := X
  have hk0 : zk Z ≤ (zR Z).cells := hk ▸ Nat.zero_le _
  have ht0 : zt Z ≤ (zR Z).slots := ht ▸ Nat.zero_le _
  refine V.iload_n X 1 dX5_at_0 rfl rfl ?_
  refine V.if_lt X 25 dX5_at_1 (by decide) (fun c1 => ?_) (fun c1 => ?_)
  · refine V.iconst X (v := -1) dX5_at_25 (by decide) ?_
    exact V.iret X rfl hA hk ht hQ rfl dX5_at_26 (⟨by first | (rw [if_pos (hasD_tt c1 c9), b8_and (hb _ (by omega)), nI_clamp (by omega)]) | (rw [hasD_f1 c1]; rfl) | (rw [hasD_f2 c9]; rfl), rfl⟩)
  · refine V.iload_n X 1 dX5_at_4 rfl rfl ?_
    refine V.aload_n X 0 dX5_at_5 rfl rfl ?_
    refine Vg_c_7_length (x := gN σ 2) X tw_125 dX5_at_6 rfl ?_
    refine V.icmp_ge X 25 dX5_at_9 (by decide) (fun c9 => ?_) (fun c9 => ?_)
    · refine V.iconst X (v := -1) dX5_at_25 (by decide) ?_
      exact V.iret X rfl hA hk ht hQ rfl dX5_at_26 (⟨by first | (rw [if_pos (hasD_tt c1 c9), b8_and (hb _ (by omega)), nI_clamp (by omega)]) | (rw [hasD_f1 c1]; rfl) | (rw [hasD_f2 c9]; rfl), rfl⟩)
    · obtain ⟨j, hj, rfl⟩ := hasD_t (n := gN σ 2) (by omega) (hasD_tt c1 c9)
      refine V.aload_n X 0 dX5_at_12 rfl rfl ?_
      refine Vg_c_7_bytes X tw_124 dX5_at_13 ?_
      refine V.iload_n X 1 dX5_at_16 rfl rfl ?_
      refine Va_c_pbytes (x := gA σ 12 j) X (by omega) dX5_at_17 rfl ?_
      refine V.sipush X (v := nI 255) dX5_at_18 (by decide) ?_
      refine V.iand X dX5_at_21 ?_
      refine V.goto X 26 dX5_at_22 (by decide) ?_
      exact V.iret X rfl hA hk ht hQ rfl dX5_at_26 (⟨by first | (rw [if_pos (hasD_tt c1 c9), b8_and (hb _ (by omega)), nI_clamp (by omega)]) | (rw [hasD_f1 c1]; rfl) | (rw [hasD_f2 c9]; rfl), rfl⟩)

set_option maxHeartbeats 4000000 in
set_option maxRecDepth 100000 in
theorem c_paddP (l : Launch) (G : Gx) (a : Nat → Nat) (σ : St) (b : Nat) (hl : gN σ 2 ≤ 6000) : MM l G ⟨"NestedDeeds$Paper", "add", "(I)V"⟩ prog_7_method_4_code 2 none 0 0 [.ref (a 7), .int (nI b)] (cw G a σ) (fun rv w => rv = none ∧ w = cw G a (pAddsP σ [b])) := by
  refine MM.of (lv := [(0, .ref (a 7)), (1, .int (nI b))]) (by decide +kernel) rfl (Nat.le_of_ble_eq_true rfl) ?_
  intro Z hRf hRl hl hG hn hk ht hA hQ X
  subst hG hl
  have X : XC Z "NestedDeeds$Paper" prog_7_method_4_code none := X
  have hk0 : zk Z ≤ (zR Z).cells := hk ▸ Nat.zero_le _
  have ht0 : zt Z ≤ (zR Z).slots := ht ▸ Nat.zero_le _
  refine V.aload_n X 0 dX5_add_0 rfl rfl ?_
  refine Vg_c_7_length (x := gN σ 2) X tw_125 dX5_add_1 rfl ?_
  refine V.sipush X (v := nI 6000) dX5_add_4 (by decide) ?_
  refine V.icmp_neN X 16 dX5_add_7 (by decide) (by omega) (by decide) (fun c7 => ?_) (fun c7 => ?_)
  · refine V.aload_n X 0 dX5_add_16 rfl rfl ?_
    refine Vg_c_7_bytes X tw_124 dX5_add_17 ?_
    refine V.aload_n X 0 dX5_add_20 rfl rfl ?_
    refine Vg_c_7_length (x := gN σ 2) X tw_125 dX5_add_21 rfl ?_
    refine V.iload_n X 1 dX5_add_24 rfl rfl ?_
    refine V.i2b X (v := b8 b) dX5_add_25 rfl ?_
    refine Vs_c_pbytes (f := gA σ 12) (i := gN σ 2) (x := b) X (by omega) dX5_add_26 rfl ?_
    refine V.aload_n X 0 dX5_add_27 rfl rfl ?_
    refine V.dup X dX5_add_28 rfl ?_
    refine Vg_c_7_length (x := gN σ 2) X tw_125 dX5_add_29 rfl ?_
    refine V.iconst X (v := nI 1) dX5_add_32 (by decide) ?_
    refine V.iaddN X dX5_add_33 ?_
    refine Vp_c_7_length (x := (gN σ 2) + 1) X tw_125 dX5_add_34 ?_
    exact V.vret X rfl hA hk ht hQ rfl dX5_add_37 (⟨rfl, congrArg (cw (zG Z) a) (pAddsG_1n _ _ _ _ _ (by omega))⟩)
  · refine V.aload_n X 0 dX5_add_10 rfl rfl ?_
    refine V.iconst X (v := nI 1) dX5_add_11 (by decide) ?_
    refine V.topi (y := bI true) rfl ?_
    refine Vp_c_7_overfull (x := true) X tw_128 dX5_add_12 ?_
    exact V.vret X rfl hA hk ht hQ rfl dX5_add_15 (⟨rfl, congrArg (cw (zG Z) a) (pAddsG_1f _ _ _ _ _ (by omega))⟩)

set_option maxHeartbeats 4000000 in
set_option maxRecDepth 100000 in
theorem c_clearD (l : Launch) (G : Gx) (a : Nat → Nat) (σ : St)  : MM l G ⟨"NestedDeeds$Paper", "clear", "()V"⟩ prog_7_method_2_code 1 none 0 0 [.ref (a 9)] (cw G a σ) (fun rv w => rv = none ∧ w = cw G a (sB (sN σ 3 0) 1 false)) := by
  refine MM.of (lv := [(0, .ref (a 9))]) (by decide +kernel) rfl (Nat.le_of_ble_eq_true rfl) ?_
  intro Z hRf hRl hl hG hn hk ht hA hQ X
  subst hG hl
  have X : XC Z "NestedDeeds$Paper" prog_7_method_2_code none := X
  have hk0 : zk Z ≤ (zR Z).cells := hk ▸ Nat.zero_le _
  have ht0 : zt Z ≤ (zR Z).slots := ht ▸ Nat.zero_le _
  refine V.aload_n X 0 dX5_clear_0 rfl rfl ?_
  refine V.iconst X (v := nI 0) dX5_clear_1 (by decide) ?_
  refine Vp_c_9_length (x := 0) X tw_125 dX5_clear_2 ?_
  refine V.aload_n X 0 dX5_clear_5 rfl rfl ?_
  refine V.iconst X (v := nI 0) dX5_clear_6 (by decide) ?_
  refine V.topi (y := bI false) rfl ?_
  refine Vp_c_9_overfull (x := false) X tw_128 dX5_clear_7 ?_
  exact V.vret X rfl hA hk ht hQ rfl dX5_clear_10 (⟨rfl, rfl⟩)

set_option maxHeartbeats 4000000 in
set_option maxRecDepth 100000 in
theorem c_atD (l : Launch) (G : Gx) (a : Nat → Nat) (σ : St) (i : Nat) (hi : i < 2 ^ 31) (hl : gN σ 3 ≤ 6000) (hb : ∀ j, j < gN σ 3 → gA σ 13 j < 256) : MM l G ⟨"NestedDeeds$Paper", "at", "(I)I"⟩ prog_7_method_3_code 2 (some .int) 0 0 [.ref (a 9), .int (nI i)] (cw G a σ) (fun rv w => rv = some (.int (oI (if i < gN σ 3 then some (gA σ 13 i) else none))) ∧ w = cw G a σ) := by
  refine MM.of (lv := [(0, .ref (a 9)), (1, .int (nI i))]) (by decide +kernel) rfl (Nat.le_of_ble_eq_true rfl) ?_
  intro Z hRf hRl hl hG hn hk ht hA hQ X
  subst hG hl
  have X : XC Z "NestedDeeds$Paper" prog_7_method_3_code (some .int) := X
  have hk0 : zk Z ≤ (zR Z).cells := hk ▸ Nat.zero_le _
  have ht0 : zt Z ≤ (zR Z).slots := ht ▸ Nat.zero_le _
  refine V.iload_n X 1 dX5_at_0 rfl rfl ?_
  refine V.if_ltN X 25 dX5_at_1 (by decide) (by omega) (fun c1 => by exfalso; assumption) (fun c1 => ?_)
  refine V.iload_n X 1 dX5_at_4 rfl rfl ?_
  refine V.aload_n X 0 dX5_at_5 rfl rfl ?_
  refine Vg_c_9_length (x := gN σ 3) X tw_125 dX5_at_6 rfl ?_
  refine V.icmp_geN X 25 dX5_at_9 (by decide) (by omega) (by omega) (fun c9 => ?_) (fun c9 => ?_)
  · refine V.iconst X (v := -1) dX5_at_25 (by decide) ?_
    exact V.iret X rfl hA hk ht hQ rfl dX5_at_26 (⟨by first | (rw [if_pos (by omega), b8_and (hb _ (by omega))]; rfl) | (rw [if_neg (by omega)]; rfl), rfl⟩)
  · refine V.aload_n X 0 dX5_at_12 rfl rfl ?_
    refine Vg_c_9_bytes X tw_124 dX5_at_13 ?_
    refine V.iload_n X 1 dX5_at_16 rfl rfl ?_
    refine Va_c_dbytes (x := gA σ 13 i) X (by omega) dX5_at_17 rfl ?_
    refine V.sipush X (v := nI 255) dX5_at_18 (by decide) ?_
    refine V.iand X dX5_at_21 ?_
    refine V.goto X 26 dX5_at_22 (by decide) ?_
    exact V.iret X rfl hA hk ht hQ rfl dX5_at_26 (⟨by first | (rw [if_pos (by omega), b8_and (hb _ (by omega))]; rfl) | (rw [if_neg (by omega)]; rfl), rfl⟩)

set_option maxHeartbeats 4000000 in
set_option maxRecDepth 100000 in
theorem c_atRD (l : Launch) (G : Gx) (a : Nat → Nat) (σ : St) (i : Int32) (hl : gN σ 3 ≤ 6000) (hb : ∀ j, j < gN σ 3 → gA σ 13 j < 256) : MM l G ⟨"NestedDeeds$Paper", "at", "(I)I"⟩ prog_7_method_3_code 2 (some .int) 0 0 [.ref (a 9), .int i] (cw G a σ) (fun rv w => rv = some (.int (if hasD (gN σ 3) i = true then nI (gA σ 13 i.toNatClampNeg) else -1)) ∧ w = cw G a σ) := by
  refine MM.of (lv := [(0, .ref (a 9)), (1, .int i)]) (by decide +kernel) rfl (Nat.le_of_ble_eq_true rfl) ?_
  intro Z hRf hRl hl hG hn hk ht hA hQ X
  subst hG hl
  have X : XC Z "NestedDeeds$Paper" prog_7_method_3_code (some .int) := X
  have hk0 : zk Z ≤ (zR Z).cells := hk ▸ Nat.zero_le _
  have ht0 : zt Z ≤ (zR Z).slots := ht ▸ Nat.zero_le _
  refine V.iload_n X 1 dX5_at_0 rfl rfl ?_
  refine V.if_lt X 25 dX5_at_1 (by decide) (fun c1 => ?_) (fun c1 => ?_)
  · refine V.iconst X (v := -1) dX5_at_25 (by decide) ?_
    exact V.iret X rfl hA hk ht hQ rfl dX5_at_26 (⟨by first | (rw [if_pos (hasD_tt c1 c9), b8_and (hb _ (by omega)), nI_clamp (by omega)]) | (rw [hasD_f1 c1]; rfl) | (rw [hasD_f2 c9]; rfl), rfl⟩)
  · refine V.iload_n X 1 dX5_at_4 rfl rfl ?_
    refine V.aload_n X 0 dX5_at_5 rfl rfl ?_
    refine Vg_c_9_length (x := gN σ 3) X tw_125 dX5_at_6 rfl ?_
    refine V.icmp_ge X 25 dX5_at_9 (by decide) (fun c9 => ?_) (fun c9 => ?_)
    · refine V.iconst X (v := -1) dX5_at_25 (by decide) ?_
      exact V.iret X rfl hA hk ht hQ rfl dX5_at_26 (⟨by first | (rw [if_pos (hasD_tt c1 c9), b8_and (hb _ (by omega)), nI_clamp (by omega)]) | (rw [hasD_f1 c1]; rfl) | (rw [hasD_f2 c9]; rfl), rfl⟩)
    · obtain ⟨j, hj, rfl⟩ := hasD_t (n := gN σ 3) (by omega) (hasD_tt c1 c9)
      refine V.aload_n X 0 dX5_at_12 rfl rfl ?_
      refine Vg_c_9_bytes X tw_124 dX5_at_13 ?_
      refine V.iload_n X 1 dX5_at_16 rfl rfl ?_
      refine Va_c_dbytes (x := gA σ 13 j) X (by omega) dX5_at_17 rfl ?_
      refine V.sipush X (v := nI 255) dX5_at_18 (by decide) ?_
      refine V.iand X dX5_at_21 ?_
      refine V.goto X 26 dX5_at_22 (by decide) ?_
      exact V.iret X rfl hA hk ht hQ rfl dX5_at_26 (⟨by first | (rw [if_pos (hasD_tt c1 c9), b8_and (hb _ (by omega)), nI_clamp (by omega)]) | (rw [hasD_f1 c1]; rfl) | (rw [hasD_f2 c9]; rfl), rfl⟩)

set_option maxHeartbeats 4000000 in
set_option maxRecDepth 100000 in
theorem c_paddD (l : Launch) (G : Gx) (a : Nat → Nat) (σ : St) (b : Nat) (hl : gN σ 3 ≤ 6000) : MM l G ⟨"NestedDeeds$Paper", "add", "(I)V"⟩ prog_7_method_4_code 2 none 0 0 [.ref (a 9), .int (nI b)] (cw G a σ) (fun rv w => rv = none ∧ w = cw G a (pAdds σ [b])) := by
  refine MM.of (lv := [(0, .ref (a 9)), (1, .int (nI b))]) (by decide +kernel) rfl (Nat.le_of_ble_eq_true rfl) ?_
  intro Z hRf hRl hl hG hn hk ht hA hQ X
  subst hG hl
  have X : XC Z "NestedDeeds$Paper" prog_7_method_4_code none := X
  have hk0 : zk Z ≤ (zR Z).cells := hk ▸ Nat.zero_le _
  have ht0 : zt Z ≤ (zR Z).slots := ht ▸ Nat.zero_le _
  refine V.aload_n X 0 dX5_add_0 rfl rfl ?_
  refine Vg_c_9_length (x := gN σ 3) X tw_125 dX5_add_1 rfl ?_
  refine V.sipush X (v := nI 6000) dX5_add_4 (by decide) ?_
  refine V.icmp_neN X 16 dX5_add_7 (by decide) (by omega) (by decide) (fun c7 => ?_) (fun c7 => ?_)
  · refine V.aload_n X 0 dX5_add_16 rfl rfl ?_
    refine Vg_c_9_bytes X tw_124 dX5_add_17 ?_
    refine V.aload_n X 0 dX5_add_20 rfl rfl ?_
    refine Vg_c_9_length (x := gN σ 3) X tw_125 dX5_add_21 rfl ?_
    refine V.iload_n X 1 dX5_add_24 rfl rfl ?_
    refine V.i2b X (v := b8 b) dX5_add_25 rfl ?_
    refine Vs_c_dbytes (f := gA σ 13) (i := gN σ 3) (x := b) X (by omega) dX5_add_26 rfl ?_
    refine V.aload_n X 0 dX5_add_27 rfl rfl ?_
    refine V.dup X dX5_add_28 rfl ?_
    refine Vg_c_9_length (x := gN σ 3) X tw_125 dX5_add_29 rfl ?_
    refine V.iconst X (v := nI 1) dX5_add_32 (by decide) ?_
    refine V.iaddN X dX5_add_33 ?_
    refine Vp_c_9_length (x := (gN σ 3) + 1) X tw_125 dX5_add_34 ?_
    exact V.vret X rfl hA hk ht hQ rfl dX5_add_37 (⟨rfl, congrArg (cw (zG Z) a) (pAddsG_1n _ _ _ _ _ (by omega))⟩)
  · refine V.aload_n X 0 dX5_add_10 rfl rfl ?_
    refine V.iconst X (v := nI 1) dX5_add_11 (by decide) ?_
    refine V.topi (y := bI true) rfl ?_
    refine Vp_c_9_overfull (x := true) X tw_128 dX5_add_12 ?_
    exact V.vret X rfl hA hk ht hQ rfl dX5_add_15 (⟨rfl, congrArg (cw (zG Z) a) (pAddsG_1f _ _ _ _ _ (by omega))⟩)

set_option maxHeartbeats 4000000 in
set_option maxRecDepth 100000 in
theorem c_become (l : Launch) (G : Gx) (a : Nat → Nat) (σ : St) (hl : gN σ 3 ≤ 6000) : MM l G ⟨"NestedDeeds$Paper", "become", "(LNestedDeeds$Paper;)V"⟩ prog_7_method_6_code 2 none 1 60 [.ref (a 7), .ref (a 9)] (cw G a σ) (fun rv w => rv = none ∧ w = cw G a (sN (sA σ 12 (va_cpy (gA σ 13) (gA σ 12) 0 0 (gN σ 3))) 2 (gN σ 3))) := by
  refine MM.of (lv := [(0, .ref (a 7)), (1, .ref (a 9))]) (by decide +kernel) rfl (Nat.le_of_ble_eq_true rfl) ?_
  intro Z hRf hRl hl hG hn hk ht hA hQ X
  subst hG hl
  have X : XC Z "NestedDeeds$Paper" prog_7_method_6_code none := X
  have hk0 : zk Z ≤ (zR Z).cells := hk ▸ Nat.zero_le _
  have ht0 : zt Z ≤ (zR Z).slots := ht ▸ Nat.zero_le _
  refine V.aload_n X 1 dX5_become_0 rfl rfl ?_
  refine Vg_c_9_bytes X tw_124 dX5_become_1 ?_
  refine V.iconst X (v := nI 0) dX5_become_4 (by decide) ?_
  refine V.aload_n X 0 dX5_become_5 rfl rfl ?_
  refine Vg_c_7_bytes X tw_124 dX5_become_6 ?_
  refine V.iconst X (v := nI 0) dX5_become_9 (by decide) ?_
  refine V.aload_n X 1 dX5_become_10 rfl rfl ?_
  refine Vg_c_9_length (x := gN σ 3) X tw_125 dX5_become_11 rfl ?_
  refine Vc_dbytes_pbytes (f := gA σ 13) (g := gA σ 12) (sp := 0) (dp := 0) (n := gN σ 3) X (by omega) (by omega) (len hRf (by decide)) (len hRl (by decide)) tw_697 dX5_become_14 rfl rfl ?_
  refine V.aload_n X 0 dX5_become_17 rfl rfl ?_
  refine V.aload_n X 1 dX5_become_18 rfl rfl ?_
  refine Vg_c_9_length (x := gN σ 3) X tw_125 dX5_become_19 rfl ?_
  refine Vp_c_7_length (x := gN σ 3) X tw_125 dX5_become_22 ?_
  exact V.vret X rfl hA hk ht hQ rfl dX5_become_25 (⟨rfl, rfl⟩)

theorem absL (v : Int32) : (if v.toInt64 < 0 then -v.toInt64 else v.toInt64) = lN (absN v) := by
  have h1 := Int32.le_toInt v
  have h2 := Int32.toInt_lt v
  have e1 : v.toInt64.toInt = v.toInt := Int32.toInt_toInt64 v
  apply Int64.toInt_inj.mp
  rw [pk_lT (by have := absN_le v; omega)]
  split
  · rename_i h
    rw [Int64.lt_iff_toInt_lt, e1, Int64.toInt_zero] at h
    rw [Int64.toInt_neg, e1, Int.bmod_eq_of_le (by omega) (by omega)]
    simp only [absN]; omega
  · rename_i h
    rw [Int64.lt_iff_toInt_lt, e1, Int64.toInt_zero] at h
    rw [e1]; simp only [absN]; omega
theorem pAdds_app {σ : St} {L M : List Nat} (h : gN σ 3 ≤ 6000) : pAdds (pAdds σ L) M = pAdds σ (L ++ M) := pAddsG_app _ _ _ _ _ _ h
theorem pAdds_le {σ : St} {L : List Nat} : gN (pAdds σ L) 3 ≤ 6000 := pAddsG_le
theorem pow10_le {c : Nat} (h : c ≤ 9) : 10 ^ c ≤ 1000000000 := by
  calc 10 ^ c ≤ 10 ^ 9 := Nat.pow_le_pow_right (by decide) h
    _ = 1000000000 := by decide

set_option maxHeartbeats 4000000 in
set_option maxRecDepth 100000 in
theorem c_addFigures (l : Launch) (G : Gx) (a : Nat → Nat) (σ : St) (v : Int32) (hl : gN σ 3 ≤ 6000) : MM l G ⟨"NestedDeeds$Paper", "addFigures", "(I)V"⟩ prog_7_method_5_code 7 none 1 21 [.ref (a 9), .int v] (cw G a σ) (fun rv w => rv = none ∧ w = cw G a (pAdds σ (numB v))) := by
  refine MM.of (lv := [(0, .ref (a 9)), (1, .int v)]) (by decide +kernel) rfl (Nat.le_of_ble_eq_true rfl) ?_
  intro Z hRf hRl hl hG hn hk ht hA hQ X
  subst hG hl
  have X : XC Z "NestedDeeds$Paper" prog_7_method_5_code none := X
  have hk0 : zk Z ≤ (zR Z).cells := hk ▸ Nat.zero_le _
  have ht0 : zt Z ≤ (zR Z).slots := ht ▸ Nat.zero_le _
  have LP2 : ∀ (c i m : Nat) (τ : St), i + c ≤ 10 → m < 10 ^ c → gN τ 3 ≤ 6000 → pAdds τ (digsC c m) = pAdds σ (numB v) → V Z (cw (zG Z) a τ) [(6, .int (nI i)), (4, .long (lN (pw c))), (2, .long (lN m)), (0, .ref (a 9)), (1, .int v)] 57 [] := by
    intro c
    induction c with
    | zero =>
      intro i m τ h1 h2 h3 h4
      refine V.iload X 0 dX5_addFigures_57 rfl ?_
      refine V.bipush X (v := nI 10) dX5_addFigures_59 (by decide) ?_
      refine V.icmp_geN X 103 dX5_addFigures_61 (by decide) (by omega) (by decide) (fun c61 => ?_) (fun c61 => ?_)
      · exact V.vret X rfl hA hk ht hQ rfl dX5_addFigures_103 (⟨rfl, by rw [← h4]; exact congrArg (cw (zG Z) a) (pAddsG_nil _ _ _ _ h3).symm⟩)
      · refine V.lload X 1 dX5_addFigures_64 rfl ?_
        refine V.lconst X (v := lN 0) dX5_addFigures_66 (by decide) ?_
        refine V.lif_leK X 103 dX5_addFigures_67 dX5_addFigures_68 (by decide) (by first | (simp only [pw]; omega) | omega) (by first | (simp only [pw]; omega) | omega) (fun c67 => ?_) (fun c67 => by exfalso; simp only [pw] at *; omega)
        exact V.vret X rfl hA hk ht hQ rfl dX5_addFigures_103 (⟨rfl, by rw [← h4]; exact congrArg (cw (zG Z) a) (pAddsG_nil _ _ _ _ h3).symm⟩)
    | succ c ih =>
      intro i m τ h1 h2 h3 h4
      have hp := Nat.pow_pos (n := c) (show 0 < 10 by decide)
      have hq := pow10_le (c := c) (by omega)
      have hdv : m / 10 ^ c < 10 := by rw [Nat.div_lt_iff_lt_mul hp, Nat.mul_comm, ← Nat.pow_succ]; exact h2
      have hmd := Nat.mod_lt m hp
      refine V.eql (lv' := [(6, .int (nI i)), (4, .long (lN (10 ^ c))), (2, .long (lN m)), (0, .ref (a 9)), (1, .int v)]) rfl ?_
      refine V.iload X 0 dX5_addFigures_57 rfl ?_
      refine V.bipush X (v := nI 10) dX5_addFigures_59 (by decide) ?_
      refine V.icmp_geN X 103 dX5_addFigures_61 (by decide) (by omega) (by decide) (fun c61 => by exfalso; omega) (fun c61 => ?_)
      refine V.lload X 1 dX5_addFigures_64 rfl ?_
      refine V.lconst X (v := lN 0) dX5_addFigures_66 (by decide) ?_
      refine V.lif_leK X 103 dX5_addFigures_67 dX5_addFigures_68 (by decide) (by omega) (by omega) (fun c67 => by exfalso; omega) (fun c67 => ?_)
      refine V.aload_n X 3 dX5_addFigures_71 rfl rfl ?_
      refine V.ldc2 X dX5_addFigures_72 tw_546 ?_
      refine V.topl (y := lN 48) (by decide) ?_
      refine V.lload_n X 2 dX5_addFigures_75 rfl rfl ?_
      refine V.lload X 1 dX5_addFigures_76 rfl ?_
      refine V.ldivK X dX5_addFigures_78 (by omega) (by omega) (by omega) ?_
      refine V.laddK X dX5_addFigures_79 ?_
      refine V.l2i X (v := nI (48 + (m / (10 ^ c)))) dX5_addFigures_80 (lN_i _) ?_
      refine V.callV X rfl (c_paddD (zl Z) (zG Z) a (τ) (48 + (m / (10 ^ c))) (by first | assumption | omega)) cv_X5_29 rfl 9 rfl rfl (len hRf (by decide)) (len hRl (by decide)) hk0 ht0 [] rfl (Nat.le_of_ble_eq_true rfl) dX5_addFigures_81 ?_
      rintro _ _ ⟨rfl, rfl⟩
      refine V.eqs (st' := []) rfl ?_
      refine V.lload_n X 2 dX5_addFigures_84 rfl rfl ?_
      refine V.lload X 1 dX5_addFigures_85 rfl ?_
      refine V.lremK X dX5_addFigures_87 (by omega) (by omega) (by omega) ?_
      refine V.lstore_n X (lv' := [(2, .long (lN (m % (10 ^ c)))), (6, .int (nI i)), (4, .long (lN (10 ^ c))), (0, .ref (a 9)), (1, .int v)]) dX5_addFigures_88 rfl (ltn hn (by decide)) rfl ?_
      refine V.lload X 2 dX5_addFigures_89 rfl ?_
      refine V.ldc2 X dX5_addFigures_91 tw_545 ?_
      refine V.topl (y := lN 10) (by decide) ?_
      refine V.ldivK X dX5_addFigures_94 (by omega) (by omega) (by omega) ?_
      refine V.lstore X (lv' := [(4, .long (lN ((10 ^ c) / 10))), (2, .long (lN (m % (10 ^ c)))), (6, .int (nI i)), (0, .ref (a 9)), (1, .int v)]) dX5_addFigures_95 (ltn hn (by decide)) rfl ?_
      refine V.iinc X (v := nI (i + 1)) (lv' := [(6, .int (nI (i + 1))), (4, .long (lN ((10 ^ c) / 10))), (2, .long (lN (m % (10 ^ c)))), (0, .ref (a 9)), (1, .int v)]) (k0 := 2) dX5_addFigures_97 rfl (inc_1 _) (ltn hn (by decide)) rfl ?_
      refine V.goto X 57 dX5_addFigures_100 (by decide) ?_
      refine V.eql (lv' := [(6, .int (nI (i + 1))), (4, .long (lN (pw c))), (2, .long (lN (m % (10 ^ c)))), (0, .ref (a 9)), (1, .int v)]) (by rw [pw_div]) ?_
      exact V.sub [0, 1, 2, 3, 4] rfl (ih (i + 1) (m % 10 ^ c) (pAdds τ [48 + m / 10 ^ c]) (by omega) hmd pAdds_le (by rw [pAdds_app h3]; exact h4))
  have hm := absN_le v
  have LP1 : ∀ (n e : Nat) (τ : St), e ≤ 9 → 10 ≤ e + n → gN τ 3 ≤ 6000 → pAdds τ (digsC (ndg (absN v) + 1) (absN v)) = pAdds σ (numB v) → (e = 0 ∨ 10 ^ e ≤ absN v) → V Z (cw (zG Z) a τ) [(6, .int (nI (e + 1))), (4, .long (lN (10 ^ e))), (2, .long (lN (absN v))), (0, .ref (a 9)), (1, .int v)] 22 [] := by
    intro n
    induction n with
    | zero => intro e τ h1 h2; exfalso; omega
    | succ n ih =>
      intro e τ h1 h2 h3 h4 h5
      have hp := Nat.pow_pos (n := e) (show 0 < 10 by decide)
      have hq := pow10_le (c := e) h1
      have hdl := Nat.div_le_self (absN v) (10 ^ e)
      refine V.iload X 0 dX5_addFigures_22 rfl ?_
      refine V.bipush X (v := nI 10) dX5_addFigures_24 (by decide) ?_
      refine V.icmp_geN X 54 dX5_addFigures_26 (by decide) (by omega) (by decide) (fun c26 => ?_) (fun c26 => ?_)
      · refine V.iconst X (v := nI 0) dX5_addFigures_54 (by decide) ?_
        refine V.istore X (lv' := [(6, .int (nI 0)), (4, .long (lN (10 ^ e))), (2, .long (lN (absN v))), (0, .ref (a 9)), (1, .int v)]) dX5_addFigures_55 (ltn hn (by decide)) rfl ?_
        have hnd : ndg (absN v) = e := ndg_eq h1 h5 (by first | (left; omega) | (right; rw [Nat.pow_succ, Nat.mul_comm]; exact (Nat.div_lt_iff_lt_mul hp).mp (by omega)))
        exact V.sub [0, 1, 2, 3, 4] rfl (LP2 (e + 1) 0 (absN v) τ (by omega) (by rw [← hnd]; exact ndg_lt (by omega)) h3 (by rw [← hnd]; exact h4))
      · refine V.lload_n X 2 dX5_addFigures_29 rfl rfl ?_
        refine V.lload X 1 dX5_addFigures_30 rfl ?_
        refine V.ldivK X dX5_addFigures_32 (by omega) (by omega) (by omega) ?_
        refine V.ldc2 X dX5_addFigures_33 tw_544 ?_
        refine V.topl (y := lN 9) (by decide) ?_
        refine V.lif_leK X 54 dX5_addFigures_36 dX5_addFigures_37 (by decide) (by omega) (by omega) (fun c36 => ?_) (fun c36 => ?_)
        · refine V.iconst X (v := nI 0) dX5_addFigures_54 (by decide) ?_
          refine V.istore X (lv' := [(6, .int (nI 0)), (4, .long (lN (10 ^ e))), (2, .long (lN (absN v))), (0, .ref (a 9)), (1, .int v)]) dX5_addFigures_55 (ltn hn (by decide)) rfl ?_
          have hnd : ndg (absN v) = e := ndg_eq h1 h5 (by first | (left; omega) | (right; rw [Nat.pow_succ, Nat.mul_comm]; exact (Nat.div_lt_iff_lt_mul hp).mp (by omega)))
          exact V.sub [0, 1, 2, 3, 4] rfl (LP2 (e + 1) 0 (absN v) τ (by omega) (by rw [← hnd]; exact ndg_lt (by omega)) h3 (by rw [← hnd]; exact h4))
        · refine V.lload X 1 dX5_addFigures_40 rfl ?_
          refine V.ldc2 X dX5_addFigures_42 tw_545 ?_
          refine V.topl (y := lN 10) (by decide) ?_
          refine V.lmulK X dX5_addFigures_45 ?_
          refine V.lstore X (lv' := [(4, .long (lN ((10 ^ e) * 10))), (6, .int (nI (e + 1))), (2, .long (lN (absN v))), (0, .ref (a 9)), (1, .int v)]) dX5_addFigures_46 (ltn hn (by decide)) rfl ?_
          refine V.iinc X (v := nI ((e + 1) + 1)) (lv' := [(6, .int (nI ((e + 1) + 1))), (4, .long (lN ((10 ^ e) * 10))), (2, .long (lN (absN v))), (0, .ref (a 9)), (1, .int v)]) (k0 := 1) dX5_addFigures_48 rfl (inc_1 _) (ltn hn (by decide)) rfl ?_
          refine V.goto X 22 dX5_addFigures_51 (by decide) ?_
          refine V.eql (lv' := [(6, .int (nI ((e + 1) + 1))), (4, .long (lN (10 ^ (e + 1)))), (2, .long (lN (absN v))), (0, .ref (a 9)), (1, .int v)]) (by rw [Nat.pow_succ]) ?_
          exact V.sub [0, 1, 2, 3, 4] rfl (ih (e + 1) τ (by omega) (by omega) h3 h4 (Or.inr (by rw [Nat.pow_succ, Nat.mul_comm]; have := (Nat.le_div_iff_mul_le hp).mp (show 10 ≤ absN v / 10 ^ e by omega); omega)))
  refine V.iload_n X 1 dX5_addFigures_0 rfl rfl ?_
  refine V.i2l X dX5_addFigures_1 rfl ?_
  refine V.callS X rfl (k_jabs (zl Z) (zG Z) (cw (zG Z) a σ) (Int32.toInt64 v)) cs_X5_23 rfl (len hRf (by decide)) (len hRl (by decide)) hk0 ht0 [] rfl (Nat.le_of_ble_eq_true rfl) dX5_addFigures_2 ?_
  rintro _ _ ⟨rfl, rfl⟩
  refine V.eqs (st' := [.long (if (Int32.toInt64 v) < 0 then -(Int32.toInt64 v) else (Int32.toInt64 v))]) rfl ?_
  refine V.topl (absL v) ?_
  refine V.lstore_n X (lv' := [(2, .long (lN (absN v))), (0, .ref (a 9)), (1, .int v)]) dX5_addFigures_5 rfl (ltn hn (by decide)) rfl ?_
  refine V.iload_n X 2 dX5_addFigures_6 rfl rfl ?_
  refine V.if_ge X 16 dX5_addFigures_7 (by decide) (fun c7 => ?_) (fun c7 => ?_)
  · refine V.lconst X (v := lN 1) dX5_addFigures_16 (by decide) ?_
    refine V.lstore X (lv' := [(4, .long (lN 1)), (2, .long (lN (absN v))), (0, .ref (a 9)), (1, .int v)]) dX5_addFigures_17 (ltn hn (by decide)) rfl ?_
    refine V.iconst X (v := nI 1) dX5_addFigures_19 (by decide) ?_
    refine V.istore X (lv' := [(6, .int (nI 1)), (4, .long (lN 1)), (2, .long (lN (absN v))), (0, .ref (a 9)), (1, .int v)]) dX5_addFigures_20 (ltn hn (by decide)) rfl ?_
    exact V.sub [0, 1, 2, 3, 4] rfl (LP1 10 0 σ (by omega) (by omega) (hl) (by simp only [numB]; rw [if_neg (Int32.not_lt.mpr c7)]; try rfl) (Or.inl rfl))
  · refine V.aload_n X 1 dX5_addFigures_10 rfl rfl ?_
    refine V.bipush X (v := nI 45) dX5_addFigures_11 (by decide) ?_
    refine V.callV X rfl (c_paddD (zl Z) (zG Z) a σ 45 (by first | assumption | omega)) cv_X5_29 rfl 9 rfl rfl (len hRf (by decide)) (len hRl (by decide)) hk0 ht0 [] rfl (Nat.le_of_ble_eq_true rfl) dX5_addFigures_13 ?_
    rintro _ _ ⟨rfl, rfl⟩
    refine V.eqs (st' := []) rfl ?_
    refine V.lconst X (v := lN 1) dX5_addFigures_16 (by decide) ?_
    refine V.lstore X (lv' := [(4, .long (lN 1)), (2, .long (lN (absN v))), (0, .ref (a 9)), (1, .int v)]) dX5_addFigures_17 (ltn hn (by decide)) rfl ?_
    refine V.iconst X (v := nI 1) dX5_addFigures_19 (by decide) ?_
    refine V.istore X (lv' := [(6, .int (nI 1)), (4, .long (lN 1)), (2, .long (lN (absN v))), (0, .ref (a 9)), (1, .int v)]) dX5_addFigures_20 (ltn hn (by decide)) rfl ?_
    exact V.sub [0, 1, 2, 3, 4] rfl (LP1 10 0 (pAdds σ [45]) (by omega) (by omega) (pAdds_le) (by rw [pAdds_app hl]; simp only [numB]; rw [if_pos (Int32.not_le.mp c7)]; try rfl) (Or.inl rfl))

