/-! rows of my own beside the kit's: a value on top is another name of a number; stores and copies whose contents nobody asks; a call's start -/
abbrev zT : Type := Nat × Nat × Nat × Nat × Nat × (Nat → Int32) × (Nat → Int32) × (Nat → Int32) × (Nat → Int32)
/-- the constants of the classes: the shared empty array of lists, the two tables of each SHA-256 -/
def zz (z : zT) (A : Nat → Prop) (U : State) (H : Heap) : Prop :=
  va_Z "java/util/ArrayList" "DEFAULTCAPACITY_EMPTY_ELEMENTDATA" "[Ljava/lang/Object;" (.ref z.1) A U H ∧
  va_Z "ChainLedger$Sha" "START" "[I" (.ref z.2.1) A U H ∧ (va_X z.2.1 8 z.2.2.2.2.2.1 U H ∧ ¬ A z.2.1) ∧
  va_Z "ChainLedger$Sha" "ROUNDS" "[I" (.ref z.2.2.1) A U H ∧ va_T .int z.2.2.1 64 (fun j => .int (z.2.2.2.2.2.2.1 j)) A U H ∧
  va_Z "ChainLedgerModel" "START" "[I" (.ref z.2.2.2.1) A U H ∧ va_T .int z.2.2.2.1 8 (fun j => .int (z.2.2.2.2.2.2.2.1 j)) A U H ∧
  va_Z "ChainLedgerModel" "K" "[I" (.ref z.2.2.2.2.1) A U H ∧ va_T .int z.2.2.2.2.1 64 (fun j => .int (z.2.2.2.2.2.2.2.2 j)) A U H ∧ zN U
theorem zz_moved {z : zT} {A : Nat → Prop} {u U : State} {H : Heap} (hvm : u.vm.Alike U.vm) (hN : zN u → zN U) (h : zz z A u H) : zz z A U H := by
  obtain ⟨a1, a2, ⟨a3, b3⟩, a4, a5, a6, a7, a8, a9, b9⟩ := h
  exact ⟨va_Z.moved hvm a1, va_Z.moved hvm a2, ⟨va_X.moved hvm a3, b3⟩, va_Z.moved hvm a4, va_T.moved hvm a5, va_Z.moved hvm a6, va_T.moved hvm a7, va_Z.moved hvm a8, va_T.moved hvm a9, hN b9⟩
theorem zz_kept {z : zT} {A : Nat → Prop} {U : State} {H H1 : Heap} (h : zz z A U H) (hq : ∀ a : Nat, a < H.size → ¬ A a → H1[a]? = H[a]?) : zz z A U H1 := by
  obtain ⟨a1, a2, ⟨a3, b3⟩, a4, a5, a6, a7, a8, a9, b9⟩ := h
  refine ⟨a1.kept hq, a2.kept hq, ⟨?_, b3⟩, a4.kept hq, a5.kept hq, a6.kept hq, a7.kept hq, a8.kept hq, a9.kept hq, b9⟩
  obtain ⟨scr, h1, h2⟩ := a3
  exact ⟨scr, (hq _ (Array.getElem?_eq_some_iff.mp h1).1 b3).trans h1, h2⟩
theorem zz_narrow {z : zT} {A B : Nat → Prop} {U : State} {H : Heap} (h : zz z A U H) (hAB : ∀ q, B q → A q) : zz z B U H := by
  obtain ⟨a1, a2, ⟨a3, b3⟩, a4, a5, a6, a7, a8, a9, b9⟩ := h
  exact ⟨a1.narrow hAB, a2.narrow hAB, ⟨a3, fun h => b3 (hAB _ h)⟩, a4.narrow hAB, a5.narrow hAB, a6.narrow hAB, a7.narrow hAB, a8.narrow hAB, a9.narrow hAB, b9⟩
theorem zz_N {z : zT} {A : Nat → Prop} {U : State} {H : Heap} (h : zz z A U H) : zN U := h.2.2.2.2.2.2.2.2.2
theorem zz_P0 {D : va_G} {cl : List vw_C} {H : Heap} : va_P D cl [] H := fun k q h => by simp at h
theorem zz_D0 {A : Nat → Prop} : va_D A [] := ⟨fun i j p q h => by simp at h, fun k q h => by simp at h⟩
section ZPRE
variable {s : State} {H : Heap} {D : va_G} {cl : List vw_C} {wc ws : va_W} {tys tys0 : List (ClassId × FieldType)} {A : Nat → Prop} {As : List Value} {z : zT} {locs : List Loc}
theorem zz_pre (hP : va_P D cl wc H) (hK : va_K D cl tys s) (hD : va_D A wc) (hZ : zz z A s s.heap) (hS : va_S A s.heap H locs) (hF : ∀ q, va_A wc H.size q → A q) : PreS s H (va_Pc As (fun U => U.heap.size = H.size ∧ va_P D cl wc U.heap ∧ va_K D cl tys U ∧ va_D (fun _ => True) wc ∧ zz z (va_A wc H.size) U U.heap)) As :=
  ⟨fun a U g mk q => by
    obtain ⟨q0, q1, qP, qK, qD, qZ⟩ := q
    exact ⟨q0, q1, qP, va_K.moved (u := U) (U := U.calling g mk a) (Vm.Alike.refl U.vm) qK, qD, zz_moved (u := U) (U := U.calling g mk a) (Vm.Alike.refl U.vm) (zN_same rfl) qZ⟩,
   fun U hU hW => ⟨rfl, by rw [hU], by rw [hU]; exact hP, va_K.moved hW.alike hK, hD.weaken (fun _ _ _ _ => trivial), by rw [hU]; exact zz_moved hW.alike (zN_warm hW) (zz_narrow (zz_kept hZ hS.2.1) hF)⟩⟩
theorem zz_preV (hP : va_P D cl wc H) (hK : va_K D cl tys s) (hD : va_D A wc) (hZ : zz z A s s.heap) (hS : va_S A s.heap H locs) (hF : ∀ q, va_A wc H.size q → A q) (hK0 : va_K D cl tys0 s) (hP0 : va_P D cl ws H) {ci q0 b : Nat} {q : vw_C} {fs : List Value} (hc : cl[ci]? = some q) (he : ws[q0]? = some (b, .inr (ci, fs))) : PreV s H q.1 b (va_Pc (.ref b :: As) (fun U => U.heap.size = H.size ∧ va_P D cl wc U.heap ∧ va_K D cl tys U ∧ va_D (fun _ => True) wc ∧ zz z (va_A wc H.size) U U.heap)) As :=
  ⟨(zz_pre (As := .ref b :: As) hP hK hD hZ hS hF).1, va_recv hK0 hP0 hc he, (zz_pre (As := .ref b :: As) hP hK hD hZ hS hF).2⟩
end ZPRE
theorem zz_nb (x : Int32) : fits .byte (.int (vp_nar .byte x)) = true := by rw [vp_nar_byte]; exact pk_fb x
theorem zz_shr {n : Nat} (h : n < 2 ^ 31) (s : Int32) (k : Nat) (hs : (s.toBitVec.smod 32).toNat = k) {m : Nat} (hm : 2 ^ k = m) : nI n >>> s = nI (n / m) := by
  subst hm; exact pk_shrN h s k hs
section ZROW
variable {p : Program} {l : Launch} {e : Env} {R : Room} {s : State} {m : MethodId} {args : Array Value} {below : List Frame} {meth : Method} {c : Code} {H : Heap} {locs : List Loc} {cells slots : Nat} {Q : State → Prop}
variable {cc : ByteArray} {pc : Nat} {ls : Array Slot} {rest : List Value} {D : va_G} {cl : List vw_C} {A : Nat → Prop} {a : Nat} {tys : List (ClassId × FieldType)} {ws : va_W} {H0 : Heap}
theorem zz_i {x v : Int32} (h : x = v) (k : W p l e R s m args below meth c H locs cells slots Q (F0 m pc ls (.int v :: rest))) : W p l e R s m args below meth c H locs cells slots Q (F0 m pc ls (.int x :: rest)) := by subst h; exact k
theorem zz_l {x v : Int64} (h : x = v) (k : W p l e R s m args below meth c H locs cells slots Q (F0 m pc ls (.long v :: rest))) : W p l e R s m args below meth c H locs cells slots Q (F0 m pc ls (.long x :: rest)) := by subst h; exact k
theorem zz_iast (hexec : p.tables.exec = Jvm.exec) (hb : c.code = cc) (hK : va_K D cl tys s) (hP : va_P D cl ws H) (hD : va_D A ws) (hS : va_S A H0 H locs) (q0 t0 : Nat) {cA : ClassId} {n : Nat} {f : Nat → Int32} (ha : ws[q0]? = some (a, .inl (cA, n, .inl f))) (ht : tys[t0]? = some (cA, .int)) {i x : Int32} (hin : vp_in i n) (hdg : decode cc pc = .ok (.iastore, 1))
    (kk : ∀ (g : Nat → Int32) (H1 : Heap) (locs1 : List Loc), va_P D cl (ws.set q0 (a, .inl (cA, n, .inl g))) H1 → va_D A (ws.set q0 (a, .inl (cA, n, .inl g))) → va_S A H0 H1 locs1 → W p l e R s m args below meth c H1 locs1 cells slots Q (F0 m (pc + 1) ls rest)) : W p l e R s m args below meth c H locs cells slots Q (F0 m pc ls (.int x :: .int i :: .ref a :: rest)) :=
  va_iast hexec hb hK hP hD hS q0 t0 ha ht hin hdg (fun H1 locs1 => kk _ H1 locs1)
theorem zz_zast (hexec : p.tables.exec = Jvm.exec) (hb : c.code = cc) (hK : va_K D cl tys s) (hP : va_P D cl ws H) (hD : va_D A ws) (hS : va_S A H0 H locs) (q0 t0 : Nat) {cA : ClassId} {n : Nat} {f : Nat → Int32} (ha : ws[q0]? = some (a, .inl (cA, n, .inl f))) (ht : tys[t0]? = some (cA, .boolean)) {i x : Int32} (hin : vp_in i n) (hdg : decode cc pc = .ok (.bastore, 1))
    (kk : ∀ (g : Nat → Int32) (H1 : Heap) (locs1 : List Loc), va_P D cl (ws.set q0 (a, .inl (cA, n, .inl g))) H1 → va_D A (ws.set q0 (a, .inl (cA, n, .inl g))) → va_S A H0 H1 locs1 → W p l e R s m args below meth c H1 locs1 cells slots Q (F0 m (pc + 1) ls rest)) : W p l e R s m args below meth c H locs cells slots Q (F0 m pc ls (.int x :: .int i :: .ref a :: rest)) :=
  va_zast hexec hb hK hP hD hS q0 t0 ha ht hin hdg (fun H1 locs1 => kk _ H1 locs1)
theorem zz_bast (hexec : p.tables.exec = Jvm.exec) (hb : c.code = cc) (hK : va_K D cl tys s) (hP : va_P D cl ws H) (hD : va_D A ws) (hS : va_S A H0 H locs) (q0 t0 : Nat) {cA : ClassId} {n : Nat} {f : Nat → Int32} (ha : ws[q0]? = some (a, .inl (cA, n, .inl f))) (ht : tys[t0]? = some (cA, .byte)) {i x : Int32} (hin : vp_in i n) (hf : sb_Fit f) (hdg : decode cc pc = .ok (.bastore, 1))
    (kk : ∀ (g : Nat → Int32) (_ : sb_Fit g) (H1 : Heap) (locs1 : List Loc), va_P D cl (ws.set q0 (a, .inl (cA, n, .inl g))) H1 → va_D A (ws.set q0 (a, .inl (cA, n, .inl g))) → va_S A H0 H1 locs1 → W p l e R s m args below meth c H1 locs1 cells slots Q (F0 m (pc + 1) ls rest)) : W p l e R s m args below meth c H locs cells slots Q (F0 m pc ls (.int x :: .int i :: .ref a :: rest)) :=
  va_bast hexec hb hK hP hD hS q0 t0 ha ht hin hdg (fun H1 locs1 => kk _ (sb_fitU hf (zz_nb x)) H1 locs1)
theorem zz_copyb (hexec : p.tables.exec = Jvm.exec) (hb : c.code = cc) (hml : c.maxLocals = ls.size) {own : String} {index : Nat} (hown : s.vm.findClass own = some m.cls) (hlink : (Cond.methodLink own index arraycopyName).before args s = true) (hnat : (Cond.native arraycopyName).before args s = true) (hstat : (Cond.static arraycopyName).before args s = true) (hini : (Cond.initialized "java/lang/System").before args s = true)
    (hK : va_K D cl tys s) (hP : va_P D cl ws H) (hD : va_D A ws) (hS : va_S A H0 H locs) (q0 q1 t0 t1 : Nat) {a0 : Nat} {c0 c1 : ClassId} {n0 n1 : Nat} {f g : Nat → Int32} (ha0 : ws[q0]? = some (a0, .inl (c0, n0, .inl f))) (ha1 : ws[q1]? = some (a, .inl (c1, n1, .inl g))) (ht0 : tys[t0]? = some (c0, .byte)) (ht1 : tys[t1]? = some (c1, .byte))
    {sp dp n : Int32} (h1 : ¬ sp < 0) (h2 : ¬ dp < 0) (h3 : ¬ n < 0) (h4 : sp.toNatClampNeg + n.toNatClampNeg ≤ n0) (h5 : dp.toNatClampNeg + n.toNatClampNeg ≤ n1) (hf : sb_Fit f) (hg : sb_Fit g)
    (hframes : 1 ≤ R.frames) (hlocals : (rest.map fun v => v.category).sum + (nativeFrameWords "java/lang/System" "arraycopy" 5 + 11) ≤ R.locals) (hdg : decode cc pc = .ok (.invokestatic index, 3))
    (kk : ∀ (w : Nat → Int32) (_ : sb_Fit w) (H1 : Heap) (locs1 : List Loc), va_P D cl (ws.set q1 (a, .inl (c1, n1, .inl w))) H1 → va_D A (ws.set q1 (a, .inl (c1, n1, .inl w))) → va_S A H0 H1 locs1 → W p l e R s m args below meth c H1 locs1 cells slots Q (F0 m (pc + 3) ls rest)) : W p l e R s m args below meth c H locs cells slots Q (F0 m pc ls (.int n :: .int dp :: .ref a :: .int sp :: .ref a0 :: rest)) :=
  va_copyi hexec hb hml hown hlink hnat hstat hini hK hP hD hS q0 q1 t0 t1 ha0 ha1 ht0 ht1 rfl h1 h2 h3 h4 h5 (fun i _ => hf _) hframes hlocals hdg (fun H1 locs1 => kk _ (sb_fitC hf hg) H1 locs1)
theorem zz_copyt (hexec : p.tables.exec = Jvm.exec) (hb : c.code = cc) (hml : c.maxLocals = ls.size) {own : String} {index : Nat} (hown : s.vm.findClass own = some m.cls) (hlink : (Cond.methodLink own index arraycopyName).before args s = true) (hnat : (Cond.native arraycopyName).before args s = true) (hstat : (Cond.static arraycopyName).before args s = true) (hini : (Cond.initialized "java/lang/System").before args s = true)
    (hK : va_K D cl tys s) (hP : va_P D cl ws H) (hD : va_D A ws) (hS : va_S A s.heap H locs) {b0 n0 : Nat} {f : Nat → Int32} (hX : va_X b0 n0 f s s.heap ∧ ¬ A b0) (q1 t1 : Nat) {c1 : ClassId} {n1 : Nat} {g : Nat → Int32} (ha1 : ws[q1]? = some (a, .inl (c1, n1, .inl g))) (ht1 : tys[t1]? = some (c1, .int))
    {sp dp n : Int32} (h1 : ¬ sp < 0) (h2 : ¬ dp < 0) (h3 : ¬ n < 0) (h4 : sp.toNatClampNeg + n.toNatClampNeg ≤ n0) (h5 : dp.toNatClampNeg + n.toNatClampNeg ≤ n1)
    (hframes : 1 ≤ R.frames) (hlocals : (rest.map fun v => v.category).sum + (nativeFrameWords "java/lang/System" "arraycopy" 5 + 11) ≤ R.locals) (hdg : decode cc pc = .ok (.invokestatic index, 3))
    (kk : ∀ (w : Nat → Int32) (H1 : Heap) (locs1 : List Loc), va_P D cl (ws.set q1 (a, .inl (c1, n1, .inl w))) H1 → va_D A (ws.set q1 (a, .inl (c1, n1, .inl w))) → va_S A s.heap H1 locs1 → W p l e R s m args below meth c H1 locs1 cells slots Q (F0 m (pc + 3) ls rest)) : W p l e R s m args below meth c H locs cells slots Q (F0 m pc ls (.int n :: .int dp :: .ref a :: .int sp :: .ref b0 :: rest)) :=
  va_copyx hexec hb hml hown hlink hnat hstat hini hK hP hD hS hX.1 (by obtain ⟨scr, h, -⟩ := hX.1; exact (Array.getElem?_eq_some_iff.mp h).1) hX.2 q1 t1 ha1 ht1 h1 h2 h3 h4 h5 hframes hlocals hdg (fun H1 locs1 => kk _ H1 locs1)
end ZROW
/-! the answers of a fresh object -/
def an_end (n : Int32) : Int32 := if n = 0 then 0 else -1
def an_tip (w : Int32) : Int64 := if w = 0 then 0 else if w = 1 then 0 else if w = 2 then 0 else if w = 3 then 0 else -1
def an_stored (n w : Int32) : Int32 := if w < 0 then -1 else if w ≤ 5 then (if n = 0 then (if w = 0 then 0 else if w = 1 then -2 else if w = 2 then 0 else if w = 3 then 32768 else if w = 4 then 0 else 1) else -2) else -1
def an_coin (w : Int32) : Int32 := if w < 0 then -1 else if w ≤ 5 then -2 else -1
def an_pooled (w : Int32) : Int32 := if w < 0 then -1 else if w ≤ 3 then -2 else -1
def an_octet (i : Int32) : Int32 := if i = -1 then 0 else -2
def an_count (w : Int32) : Int64 := if w = 0 then 1 else if w = 1 then 0 else if w = 2 then 0 else if w = 3 then 0 else if w = 4 then 0 else if w = 5 then 0 else if w = 6 then 0 else -1
def an_draft (q t : Int32) : Int32 := if q = -1 then (if 0 ≤ t then 94 else -1) else if q = 0 then (if 0 ≤ t then 94 else -1) else -1
theorem zz_nlt {x : Int32} (h : ¬ x < 0) : 0 ≤ x := Int32.not_lt.mp h
theorem zz_nlt0 {x : Int32} (h : ¬ x < 0) : ¬ x < 0 := h
theorem zz_eq0 {x : Int32} (h1 : ¬ x < 0) (h2 : x ≤ 0) : x = 0 := Int32.le_antisymm h2 (zz_nlt h1)
theorem zz_01 {x : Int32} (h1 : ¬ x < 0) (h2 : x < 1) : x = 0 := by
  apply Int32.toInt_inj.mp
  have a := Int32.le_iff_toInt_le.mp (zz_nlt h1)
  have b := Int32.lt_iff_toInt_lt.mp h2
  have c0 : (0 : Int32).toInt = 0 := by decide
  have c1 : (1 : Int32).toInt = 1 := by decide
  omega
theorem zz_01b {x : Int32} (h1 : ¬ x < 0) (h2 : ¬ 1 ≤ x) : x = 0 := zz_01 h1 (Int32.not_le.mp h2)
theorem zz_sp2 {k n : Int32} (h1 : ¬ n < 1) (h2 : ¬ 8 < n) (h3 : ¬ k < 0) : 0 - n < k := by
  have a := Int32.le_iff_toInt_le.mp (Int32.not_lt.mp h1)
  have b := Int32.le_iff_toInt_le.mp (Int32.not_lt.mp h2)
  have d := Int32.le_iff_toInt_le.mp (zz_nlt h3)
  have c0 : (0 : Int32).toInt = 0 := by decide
  have c1 : (1 : Int32).toInt = 1 := by decide
  have c8 : (8 : Int32).toInt = 8 := by decide
  apply Int32.lt_iff_toInt_lt.mpr
  rw [Int32.toInt_sub, c0, Int.bmod_eq_of_le (by omega) (by omega)]
  omega
theorem zz_sp {k n : Int32} (h1 : ¬ n < 1) (h2 : ¬ 8 < n) (h3 : ¬ k < 0) : ¬ k ≤ 0 - n := Int32.not_le.mpr (zz_sp2 h1 h2 h3)
theorem ae_3 {n : Int32} (h : n < 0) : -1 = an_end n := by
  unfold an_end; rw [if_neg]; rintro rfl; exact absurd h (by decide)
theorem ae_4 {n : Int32} (h1 : ¬ n < 0) (h2 : ¬ n ≤ 0) : -1 = an_end n := by
  unfold an_end; rw [if_neg]; rintro rfl; exact absurd (by decide) h2
theorem ae_5 {n : Int32} (h1 : ¬ n < 0) (h2 : n ≤ 0) : n = an_end n := by
  have e := zz_eq0 h1 h2
  subst e; rfl
theorem zz_out3 {x : Int32} (h0 : ¬ x = 0) (h1 : ¬ x = 1) (h2 : ¬ x = 2) : x.toInt < 0 ∨ 2 < x.toInt := by
  have a0 := lv_neT (a := 0) h0 (by decide)
  have a1 := lv_neT (a := 1) h1 (by decide)
  have a2 := lv_neT (a := 2) h2 (by decide)
  omega
theorem zz_out4 {x : Int32} (h0 : ¬ x = 0) (h1 : ¬ x = 1) (h2 : ¬ x = 2) (h3 : ¬ x = 3) : x.toInt < 0 ∨ 3 < x.toInt := by
  have a0 := lv_neT (a := 0) h0 (by decide)
  have a1 := lv_neT (a := 1) h1 (by decide)
  have a2 := lv_neT (a := 2) h2 (by decide)
  have a3 := lv_neT (a := 3) h3 (by decide)
  omega
theorem zz_out5 {x : Int32} (h0 : ¬ x = 0) (h1 : ¬ x = 1) (h2 : ¬ x = 2) (h3 : ¬ x = 3) (h4 : ¬ x = 4) : x.toInt < 0 ∨ 4 < x.toInt := by
  have a0 := lv_neT (a := 0) h0 (by decide)
  have a1 := lv_neT (a := 1) h1 (by decide)
  have a2 := lv_neT (a := 2) h2 (by decide)
  have a3 := lv_neT (a := 3) h3 (by decide)
  have a4 := lv_neT (a := 4) h4 (by decide)
  omega
theorem zz_out7 {x : Int32} (h0 : ¬ x = 0) (h1 : ¬ x = 1) (h2 : ¬ x = 2) (h3 : ¬ x = 3) (h4 : ¬ x = 4) (h5 : ¬ x = 5) (h6 : ¬ x = 6) : x.toInt < 0 ∨ 6 < x.toInt := by
  have a0 := lv_neT (a := 0) h0 (by decide)
  have a1 := lv_neT (a := 1) h1 (by decide)
  have a2 := lv_neT (a := 2) h2 (by decide)
  have a3 := lv_neT (a := 3) h3 (by decide)
  have a4 := lv_neT (a := 4) h4 (by decide)
  have a5 := lv_neT (a := 5) h5 (by decide)
  have a6 := lv_neT (a := 6) h6 (by decide)
  omega
theorem zz_out19 {x : Int32} (h0 : ¬ x = 0) (h1 : ¬ x = 1) (h2 : ¬ x = 2) (h3 : ¬ x = 3) (h4 : ¬ x = 4) (h5 : ¬ x = 5) (h6 : ¬ x = 6) (h7 : ¬ x = 7) (h8 : ¬ x = 8) (h9 : ¬ x = 9) (h10 : ¬ x = 10) (h11 : ¬ x = 11) (h12 : ¬ x = 12) (h13 : ¬ x = 13) (h14 : ¬ x = 14) (h15 : ¬ x = 15) (h16 : ¬ x = 16) (h17 : ¬ x = 17) (h18 : ¬ x = 18) : x.toInt < 0 ∨ 18 < x.toInt := by
  have a0 := lv_neT (a := 0) h0 (by decide)
  have a1 := lv_neT (a := 1) h1 (by decide)
  have a2 := lv_neT (a := 2) h2 (by decide)
  have a3 := lv_neT (a := 3) h3 (by decide)
  have a4 := lv_neT (a := 4) h4 (by decide)
  have a5 := lv_neT (a := 5) h5 (by decide)
  have a6 := lv_neT (a := 6) h6 (by decide)
  have a7 := lv_neT (a := 7) h7 (by decide)
  have a8 := lv_neT (a := 8) h8 (by decide)
  have a9 := lv_neT (a := 9) h9 (by decide)
  have a10 := lv_neT (a := 10) h10 (by decide)
  have a11 := lv_neT (a := 11) h11 (by decide)
  have a12 := lv_neT (a := 12) h12 (by decide)
  have a13 := lv_neT (a := 13) h13 (by decide)
  have a14 := lv_neT (a := 14) h14 (by decide)
  have a15 := lv_neT (a := 15) h15 (by decide)
  have a16 := lv_neT (a := 16) h16 (by decide)
  have a17 := lv_neT (a := 17) h17 (by decide)
  have a18 := lv_neT (a := 18) h18 (by decide)
  omega
theorem zz_cmp (x : Int64) : lg_cmp x x = 0 := by
  have h : ¬ x < x := Int64.lt_irrefl
  simp [lg_cmp, h]

