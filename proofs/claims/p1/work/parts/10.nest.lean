/-! what the tables say of nest mates and of arrays over a class: carried beside the words -/
def nestL : List (String × Nat × MethodName × String) := [(R_Coins, 3, y_View_init, "ChainLedger"), (R_Judge, 11, y_Row_init, "ChainLedger"), (R_Chain, 11, y_Coins_init, "ChainLedger"), (R_Chain, 53, y_Block_init, "ChainLedger"), (R_Row, 19, y_CL_putNumber, "ChainLedger"), (R_Sha, 34, y_CL_putNumber, "ChainLedger"), (R_Pool, 48, y_Payment_init, "ChainLedger"), (R_Pool, 3, y_View_init, "ChainLedger"), (R_CL, 9, y_Row_init, "ChainLedger"), (R_CL, 25, y_Sha_init, "ChainLedger"), (R_CL, 59, y_Payment_init, "ChainLedger"), (R_Mo, 129, y_Mc_init, "ChainLedgerModel")]
def zAB (U : State) : Prop := (Cond.arrayOver (.array .byte)).before #[] U = true
def zf (vm : Vm) (comp : ClassId) : Option Nat := vm.classes.findIdx? fun (x : Class) => match x.kind with | .array component _ => component == comp | _ => false
def zg (vm : Vm) (c : Nat) (k : Class) : Bool := match k.kind with | .array _ ty => decide (ty = FieldType.array .byte) && decide (vm.findClass ("[" ++ (FieldType.array .byte).toString) = some c) | _ => false
theorem zAB_is (V : State) : zAB V ↔ (((V.vm.findClass (FieldType.array .byte).toString).bind fun comp => (zf V.vm comp).bind fun c => (V.vm.classes[c]?).map fun k => zg V.vm c k) == some true) = true := by
  unfold zAB Cond.before Cond.holds
  simp only [Cond.value]
  exact Iff.rfl
theorem zAB_moved {u U : State} (hvm : u.vm.Alike U.vm) (h : zAB u) : zAB U := by
  rw [zAB_is] at h ⊢
  have hf : ∀ n : String, U.vm.findClass n = u.vm.findClass n := fun n => by rw [hvm.findClass]
  have hz : ∀ comp : ClassId, zf U.vm comp = zf u.vm comp := fun comp => by
    have e1 : zf U.vm.bare comp = zf U.vm comp := va_idx_bare U.vm comp
    have e2 : zf u.vm.bare comp = zf u.vm comp := va_idx_bare u.vm comp
    rw [← e1, ← e2, hvm.bare_eq]
  rw [hf]
  cases hc : u.vm.findClass (FieldType.array .byte).toString with
  | none => simp [hc] at h
  | some comp =>
    simp only [hc, Option.bind_some] at h ⊢
    rw [hz]
    cases hi : zf u.vm comp with
    | none => simp [hi] at h
    | some c =>
      simp only [hi, Option.bind_some] at h ⊢
      cases hk : u.vm.classes[c]? with
      | none => simp [hk] at h
      | some k =>
        obtain ⟨k', hk', he⟩ := hvm.2.2 _ _ hk
        have hkk : k'.kind = k.kind := by rw [he]
        have hg : zg U.vm c k' = zg u.vm c k := by unfold zg; rw [hkk, hf]
        simp only [hk, hk', Option.map_some, hg] at h ⊢
        exact h
def zN (U : State) : Prop := (∀ q ∈ nestL, va_Nw (.methodLinkNest q.1 q.2.1 q.2.2.1 q.2.2.2) U) ∧ va_AO "ChainLedger$Block" U ∧ va_AO "ChainLedger$Payment" U ∧ va_AO "ChainLedger$Coin" U ∧ zAB U
theorem zN_same {u U : State} (h : u.vm = U.vm) (hz : zN u) : zN U := by
  have ha : u.vm.Alike U.vm := by rw [h]; exact Vm.Alike.refl _
  exact ⟨fun q hq => va_Nw.same rfl h (hz.1 q hq), va_AO.moved ha hz.2.1, va_AO.moved ha hz.2.2.1, va_AO.moved ha hz.2.2.2.1, zAB_moved ha hz.2.2.2.2⟩
theorem zN_warm {s U : State} (hW : s.WarmedH U.vm) (hz : zN s) : zN U :=
  ⟨fun q hq => va_Nw.warmM hW (hz.1 q hq), va_AO.moved hW.alike hz.2.1, va_AO.moved hW.alike hz.2.2.1, va_AO.moved hW.alike hz.2.2.2.1, zAB_moved hW.alike hz.2.2.2.2⟩

theorem zn_k_36 {U : State} (h : zN U) : va_Nw (.methodLinkNest R_Coins 3 y_View_init "ChainLedger") U := h.1 (R_Coins, 3, y_View_init, "ChainLedger") (List.mem_of_getElem? (i := 0) rfl)
theorem zn_k_56 {U : State} (h : zN U) : va_Nw (.methodLinkNest R_Judge 11 y_Row_init "ChainLedger") U := h.1 (R_Judge, 11, y_Row_init, "ChainLedger") (List.mem_of_getElem? (i := 1) rfl)
theorem zn_k_72 {U : State} (h : zN U) : va_Nw (.methodLinkNest R_Chain 11 y_Coins_init "ChainLedger") U := h.1 (R_Chain, 11, y_Coins_init, "ChainLedger") (List.mem_of_getElem? (i := 2) rfl)
theorem zn_k_89 {U : State} (h : zN U) : va_Nw (.methodLinkNest R_Chain 53 y_Block_init "ChainLedger") U := h.1 (R_Chain, 53, y_Block_init, "ChainLedger") (List.mem_of_getElem? (i := 3) rfl)
theorem zn_k_99 {U : State} (h : zN U) : va_Nw (.methodLinkNest R_Row 19 y_CL_putNumber "ChainLedger") U := h.1 (R_Row, 19, y_CL_putNumber, "ChainLedger") (List.mem_of_getElem? (i := 4) rfl)
theorem zn_k_123 {U : State} (h : zN U) : va_Nw (.methodLinkNest R_Sha 34 y_CL_putNumber "ChainLedger") U := h.1 (R_Sha, 34, y_CL_putNumber, "ChainLedger") (List.mem_of_getElem? (i := 5) rfl)
theorem zn_k_147 {U : State} (h : zN U) : va_Nw (.methodLinkNest R_Pool 48 y_Payment_init "ChainLedger") U := h.1 (R_Pool, 48, y_Payment_init, "ChainLedger") (List.mem_of_getElem? (i := 6) rfl)
theorem zn_k_158 {U : State} (h : zN U) : va_Nw (.methodLinkNest R_Pool 3 y_View_init "ChainLedger") U := h.1 (R_Pool, 3, y_View_init, "ChainLedger") (List.mem_of_getElem? (i := 7) rfl)
theorem zn_k_166 {U : State} (h : zN U) : va_Nw (.methodLinkNest R_CL 9 y_Row_init "ChainLedger") U := h.1 (R_CL, 9, y_Row_init, "ChainLedger") (List.mem_of_getElem? (i := 8) rfl)
theorem zn_k_171 {U : State} (h : zN U) : va_Nw (.methodLinkNest R_CL 25 y_Sha_init "ChainLedger") U := h.1 (R_CL, 25, y_Sha_init, "ChainLedger") (List.mem_of_getElem? (i := 9) rfl)
theorem zn_k_192 {U : State} (h : zN U) : va_Nw (.methodLinkNest R_CL 59 y_Payment_init "ChainLedger") U := h.1 (R_CL, 59, y_Payment_init, "ChainLedger") (List.mem_of_getElem? (i := 10) rfl)
theorem zn_k_331 {U : State} (h : zN U) : va_Nw (.methodLinkNest R_Mo 129 y_Mc_init "ChainLedgerModel") U := h.1 (R_Mo, 129, y_Mc_init, "ChainLedgerModel") (List.mem_of_getElem? (i := 11) rfl)
theorem zN_of {b : Nat} {s : State} (hts : ∀ w ∈ lw_tbl, w.before #[Value.ref b] s = true) : zN s := by
  have ht : ∀ (i : Nat) (w : Cond), tables_1[i]? = some w → w.before #[Value.ref b] s = true := fun i w h => hts w (List.mem_append_right _ (List.mem_of_getElem? h))
  refine ⟨?_, ht 178 _ (by decide +kernel : tables_1[178]? = some (.arrayOver (.object "ChainLedger$Block"))), ht 187 _ (by decide +kernel : tables_1[187]? = some (.arrayOver (.object "ChainLedger$Payment"))), ht 73 _ (by decide +kernel : tables_1[73]? = some (.arrayOver (.object "ChainLedger$Coin"))), ht 81 _ (by decide +kernel : tables_1[81]? = some (.arrayOver (.array .byte)))⟩
  intro q hq
  simp only [nestL, List.mem_cons, List.not_mem_nil, or_false] at hq
  rcases hq with rfl | rfl | rfl | rfl | rfl | rfl | rfl | rfl | rfl | rfl | rfl | rfl
  · exact va_Nw.of rfl (ht 142 _ (by decide +kernel : tables_1[142]? = some (.methodLinkNest R_Coins 3 y_View_init "ChainLedger")))
  · exact va_Nw.of rfl (ht 71 _ (by decide +kernel : tables_1[71]? = some (.methodLinkNest R_Judge 11 y_Row_init "ChainLedger")))
  · exact va_Nw.of rfl (ht 139 _ (by decide +kernel : tables_1[139]? = some (.methodLinkNest R_Chain 11 y_Coins_init "ChainLedger")))
  · exact va_Nw.of rfl (ht 182 _ (by decide +kernel : tables_1[182]? = some (.methodLinkNest R_Chain 53 y_Block_init "ChainLedger")))
  · exact va_Nw.of rfl (ht 494 _ (by decide +kernel : tables_1[494]? = some (.methodLinkNest R_Row 19 y_CL_putNumber "ChainLedger")))
  · exact va_Nw.of rfl (ht 540 _ (by decide +kernel : tables_1[540]? = some (.methodLinkNest R_Sha 34 y_CL_putNumber "ChainLedger")))
  · exact va_Nw.of rfl (ht 991 _ (by decide +kernel : tables_1[991]? = some (.methodLinkNest R_Pool 48 y_Payment_init "ChainLedger")))
  · exact va_Nw.of rfl (ht 332 _ (by decide +kernel : tables_1[332]? = some (.methodLinkNest R_Pool 3 y_View_init "ChainLedger")))
  · exact va_Nw.of rfl (ht 34 _ (by decide +kernel : tables_1[34]? = some (.methodLinkNest R_CL 9 y_Row_init "ChainLedger")))
  · exact va_Nw.of rfl (ht 52 _ (by decide +kernel : tables_1[52]? = some (.methodLinkNest R_CL 25 y_Sha_init "ChainLedger")))
  · exact va_Nw.of rfl (ht 360 _ (by decide +kernel : tables_1[360]? = some (.methodLinkNest R_CL 59 y_Payment_init "ChainLedger")))
  · exact va_Nw.of rfl (ht 1132 _ (by decide +kernel : tables_1[1132]? = some (.methodLinkNest R_Mo 129 y_Mc_init "ChainLedgerModel")))
