/-! the constants at the start, out of the words of the Statement -/
theorem zs_T {args : Array Value} {s : State} {A : Nat → Prop} (tm : Term) (N : Nat) (tbl : List Int32) (hN : N < 2 ^ 31) {L : List Cond} (hs : ∀ c ∈ L, c.before args s = true) (h1 : Cond.arrayOf tm .int ∈ L) (h2 : Cond.eq (.length tm) (.int (Int32.ofNat N)) ∈ L) (h3 : ∀ j : Nat, j < N → Cond.eq (.elem tm (.int (Int32.ofNat j))) (.int (tbl.getD j 0)) ∈ L) (hA : ∀ a : Nat, a < s.heap.size → ¬ A a) :
    ∃ t : Nat, tm.eval args s none [] s = some (.ref t) ∧ va_T .int t N (fun j => .int (tbl.getD j 0)) A s s.heap :=
  va_Tof hN (hs _ h1) (va_eqt (hs _ h2)) (fun j hj => va_eqt (hs _ (h3 j hj))) hA
theorem zs_X {args : Array Value} {s : State} {A : Nat → Prop} {tm : Term} {N t : Nat} {f : Nat → Int32} (hN : N < 2 ^ 31) (hlen : (Cond.eq (.length tm) (.int (Int32.ofNat N))).before args s = true) (ht : tm.eval args s none [] s = some (.ref t)) (h : va_T .int t N (fun j => .int (f j)) A s s.heap) : va_X t N f s s.heap ∧ ¬ A t := by
  obtain ⟨cell, h1, h2, h3, h4, h5, h6, h7⟩ := h
  refine ⟨⟨cell, h1, h2, h3, ?_, h6⟩, h7⟩
  have e := va_eqt hlen
  simp only [Term.eval, ht, Option.bind_eq_bind, Option.bind_some] at e
  cases ha : s.arrayAt? t with
  | none => simp [ha] at e
  | some c2 =>
    have hc := (State.arrayAt?_spec ha).1
    have hcc : c2 = cell := Option.some.inj (hc.symm.trans h1)
    subst hcc
    simp only [ha, Option.bind_some] at e
    split at e
    · rename_i hb
      exact (nI_eq hb hN).mp (Value.int.inj (Option.some.inj e))
    · cases e
def tb_cs : List Int32 := [1779033703, -1150833019, 1013904242, -1521486534, 1359893119, -1694144372, 528734635, 1541459225]
theorem tb_cs_in : ∀ j : Nat, j < 8 → Cond.eq (.elem (.static "ChainLedger$Sha" "START" "[I") (.int (Int32.ofNat j))) (.int (tb_cs.getD j 0)) ∈ flatC (Jvm.Cond.and given_1 narrow_1) := fun j hj => va_run (p := 11) (by decide +kernel) j hj
def tb_cr : List Int32 := [1116352408, 1899447441, -1245643825, -373957723, 961987163, 1508970993, -1841331548, -1424204075, -670586216, 310598401, 607225278, 1426881987, 1925078388, -2132889090, -1680079193, -1046744716, -459576895, -272742522, 264347078, 604807628, 770255983, 1249150122, 1555081692, 1996064986, -1740746414, -1473132947, -1341970488, -1084653625, -958395405, -710438585, 113926993, 338241895, 666307205, 773529912, 1294757372, 1396182291, 1695183700, 1986661051, -2117940946, -1838011259, -1564481375, -1474664885, -1035236496, -949202525, -778901479, -694614492, -200395387, 275423344, 430227734, 506948616, 659060556, 883997877, 958139571, 1322822218, 1537002063, 1747873779, 1955562222, 2024104815, -2067236844, -1933114872, -1866530822, -1538233109, -1090935817, -965641998]
theorem tb_cr_in : ∀ j : Nat, j < 64 → Cond.eq (.elem (.static "ChainLedger$Sha" "ROUNDS" "[I") (.int (Int32.ofNat j))) (.int (tb_cr.getD j 0)) ∈ flatC (Jvm.Cond.and given_1 narrow_1) := fun j hj => va_run (p := 22) (by decide +kernel) j hj
def tb_ms : List Int32 := [1779033703, -1150833019, 1013904242, -1521486534, 1359893119, -1694144372, 528734635, 1541459225]
theorem tb_ms_in : ∀ j : Nat, j < 8 → Cond.eq (.elem (.static "ChainLedgerModel" "START" "[I") (.int (Int32.ofNat j))) (.int (tb_ms.getD j 0)) ∈ flatC (Jvm.Cond.and given_1 narrow_1) := fun j hj => va_run (p := 89) (by decide +kernel) j hj
def tb_mk : List Int32 := [1116352408, 1899447441, -1245643825, -373957723, 961987163, 1508970993, -1841331548, -1424204075, -670586216, 310598401, 607225278, 1426881987, 1925078388, -2132889090, -1680079193, -1046744716, -459576895, -272742522, 264347078, 604807628, 770255983, 1249150122, 1555081692, 1996064986, -1740746414, -1473132947, -1341970488, -1084653625, -958395405, -710438585, 113926993, 338241895, 666307205, 773529912, 1294757372, 1396182291, 1695183700, 1986661051, -2117940946, -1838011259, -1564481375, -1474664885, -1035236496, -949202525, -778901479, -694614492, -200395387, 275423344, 430227734, 506948616, 659060556, 883997877, 958139571, 1322822218, 1537002063, 1747873779, 1955562222, 2024104815, -2067236844, -1933114872, -1866530822, -1538233109, -1090935817, -965641998]
theorem tb_mk_in : ∀ j : Nat, j < 64 → Cond.eq (.elem (.static "ChainLedgerModel" "K" "[I") (.int (Int32.ofNat j))) (.int (tb_mk.getD j 0)) ∈ flatC (Jvm.Cond.and given_1 narrow_1) := fun j hj => va_run (p := 100) (by decide +kernel) j hj
/-- all of them -/
theorem zs_all {b : Nat} {s : State} {A : Nat → Prop} (hN : zN s) (hT : ∀ w ∈ lw_all, w.before #[Value.ref b] s = true) (hgv : (Jvm.Cond.and given_1 narrow_1).before #[Value.ref b] s = true) (hA : ∀ a : Nat, a < s.heap.size → ¬ A a) : ∃ z : zT, zz z A s s.heap := by
  have hs := flat_of_before _ hgv
  obtain ⟨t0, c0, h0, -, -⟩ := Term.length_spec (va_eqt (hs (.eq (.length (.static "java/util/ArrayList" "DEFAULTCAPACITY_EMPTY_ELEMENTDATA" "[Ljava/lang/Object;")) (.int 0)) (by decide +kernel)))
  obtain ⟨t1, e1, T1⟩ := zs_T (A := A) (.static "ChainLedger$Sha" "START" "[I") 8 tb_cs (by decide) hs (by decide +kernel) (by decide +kernel) tb_cs_in hA
  obtain ⟨t2, e2, T2⟩ := zs_T (A := A) (.static "ChainLedger$Sha" "ROUNDS" "[I") 64 tb_cr (by decide) hs (by decide +kernel) (by decide +kernel) tb_cr_in hA
  obtain ⟨t3, e3, T3⟩ := zs_T (A := A) (.static "ChainLedgerModel" "START" "[I") 8 tb_ms (by decide) hs (by decide +kernel) (by decide +kernel) tb_ms_in hA
  obtain ⟨t4, e4, T4⟩ := zs_T (A := A) (.static "ChainLedgerModel" "K" "[I") 64 tb_mk (by decide) hs (by decide +kernel) (by decide +kernel) tb_mk_in hA
  refine ⟨(t0, t1, t2, t3, t4, fun j => tb_cs.getD j 0, fun j => tb_cr.getD j 0, fun j => tb_ms.getD j 0, fun j => tb_mk.getD j 0), ?_⟩
  exact ⟨va_Zof (hT _ (lw_t 159 (by decide +kernel) rfl : (.laysStatic "java/util/ArrayList" "DEFAULTCAPACITY_EMPTY_ELEMENTDATA" "[Ljava/lang/Object;" : Cond) ∈ lw_all)) (hT _ (lw_t 11 (by decide +kernel) rfl : (.initialized "java/util/ArrayList" : Cond) ∈ lw_all)) h0 hA, va_Zof (hT _ (lw_t 526 (by decide +kernel) rfl : (.laysStatic "ChainLedger$Sha" "START" "[I" : Cond) ∈ lw_all)) (hT _ (lw_t 3 (by decide +kernel) rfl : (.initialized "ChainLedger$Sha" : Cond) ∈ lw_all)) e1 hA, zs_X (by decide) (hs _ (by decide +kernel)) e1 T1, va_Zof (hT _ (lw_t 539 (by decide +kernel) rfl : (.laysStatic "ChainLedger$Sha" "ROUNDS" "[I" : Cond) ∈ lw_all)) (hT _ (lw_t 3 (by decide +kernel) rfl : (.initialized "ChainLedger$Sha" : Cond) ∈ lw_all)) e2 hA, T2, va_Zof (hT _ (lw_t 1387 (by decide +kernel) rfl : (.laysStatic "ChainLedgerModel" "START" "[I" : Cond) ∈ lw_all)) (hT _ (lw_t 15 (by decide +kernel) rfl : (.initialized "ChainLedgerModel" : Cond) ∈ lw_all)) e3 hA, T3, va_Zof (hT _ (lw_t 1394 (by decide +kernel) rfl : (.laysStatic "ChainLedgerModel" "K" "[I" : Cond) ∈ lw_all)) (hT _ (lw_t 15 (by decide +kernel) rfl : (.initialized "ChainLedgerModel" : Cond) ∈ lw_all)) e4 hA, T4, hN⟩
