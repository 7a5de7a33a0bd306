set_option maxHeartbeats 4000000 in
set_option maxRecDepth 100000 in
/-- BLOCK 0 -/
theorem c_Chain_numbered0 (l : Launch) (dC : Nat → ClassId) (dI : Nat → Nat → Nat) (z : zT) (sz : Nat) (g1 g3 g4 g5 g6 g8 g9 g10 hs hj hc : Nat) (eb : ClassId) (fb : Nat → Option Nat) (hb0 : fb 0 = some g6) : Met l y_Chain_numbered w_Chain_numbered ({ frames := 0, cells := 0, slots := 0, locals := 0 }) (va_Pc [.ref hc, .int 0] (fun U => U.heap.size = sz ∧ va_P (dC, dI) cl_all [(hc, .inr (5, [.ref hs, .ref hj, .ref g1, .ref g3, .int 1, .int 0, .ref g4, .ref g6, .ref g5, .ref g8, .int 0, .ref g9, .int 0, .ref g10, .int 0, .int 1, .null])), (g3, .inl (eb, 256, .inr (.inr (.inr (.inr fb)))))] U.heap ∧ va_K (dC, dI) cl_all [(eb, .object "ChainLedger$Block")] U ∧ va_D (fun _ => True) [(hc, .inr (5, [.ref hs, .ref hj, .ref g1, .ref g3, .int 1, .int 0, .ref g4, .ref g6, .ref g5, .ref g8, .int 0, .ref g9, .int 0, .ref g10, .int 0, .int 1, .null])), (g3, .inl (eb, 256, .inr (.inr (.inr (.inr fb)))))] ∧ zz z (va_A [(hc, .inr (5, [.ref hs, .ref hj, .ref g1, .ref g3, .int 1, .int 0, .ref g4, .ref g6, .ref g5, .ref g8, .int 0, .ref g9, .int 0, .ref g10, .int 0, .int 1, .null])), (g3, .inl (eb, 256, .inr (.inr (.inr (.inr fb)))))] sz) U U.heap)) (va_Qq (fun (r : Option Nat) (_ : Unit) => r = some g6) (fun _ t => va_P (dC, dI) cl_all [(hc, .inr (5, [.ref hs, .ref hj, .ref g1, .ref g3, .int 1, .int 0, .ref g4, .ref g6, .ref g5, .ref g8, .int 0, .ref g9, .int 0, .ref g10, .int 0, .int 1, .null])), (g3, .inl (eb, 256, .inr (.inr (.inr (.inr fb)))))] t.heap ∧ va_K (dC, dI) cl_all [] t ∧ va_D (va_A [(hc, .inr (5, [.ref hs, .ref hj, .ref g1, .ref g3, .int 1, .int 0, .ref g4, .ref g6, .ref g5, .ref g8, .int 0, .ref g9, .int 0, .ref g10, .int 0, .int 1, .null])), (g3, .inl (eb, 256, .inr (.inr (.inr (.inr fb)))))] sz) [(hc, .inr (5, [.ref hs, .ref hj, .ref g1, .ref g3, .int 1, .int 0, .ref g4, .ref g6, .ref g5, .ref g8, .int 0, .ref g9, .int 0, .ref g10, .int 0, .int 1, .null])), (g3, .inl (eb, 256, .inr (.inr (.inr (.inr fb)))))]) (va_A [(hc, .inr (5, [.ref hs, .ref hj, .ref g1, .ref g3, .int 1, .int 0, .ref g4, .ref g6, .ref g5, .ref g8, .int 0, .ref g9, .int 0, .ref g10, .int 0, .int 1, .null])), (g3, .inl (eb, 256, .inr (.inr (.inr (.inr fb)))))] sz)) 0 0 (va_A [(hc, .inr (5, [.ref hs, .ref hj, .ref g1, .ref g3, .int 1, .int 0, .ref g4, .ref g6, .ref g5, .ref g8, .int 0, .ref g9, .int 0, .ref g10, .int 0, .int 1, .null])), (g3, .inl (eb, 256, .inr (.inr (.inr (.inr fb)))))] sz) := by
  refine Met.ofW (cc := b_Chain_numbered) (maxL := 2) (ret := (some (.object "ChainLedger$Block"))) (by decide) rfl ?_
  intro p e s m args below meth c s₁ B hml hv
  obtain ⟨rfl, hsz, hP, hK, hD0, hZ⟩ := hv
  have hx := B.exec
  have hb := B.bytes
  have hr := B.returns
  have hT : ∀ w ∈ lw_all, w.before _ s = true := fun w h => atoms_spec (ws := w_Chain_numbered) B.pre w (List.mem_cons_of_mem _ h)
  have hown : s.vm.findClass R_Chain = some m.cls := findClass_of_methodNamed B.named
  have hlocks := B.notSynchronized
  subst hsz
  have hD := hD0.self (sz := s.heap.size)
  generalize hAe : va_A [(hc, .inr (5, [.ref hs, .ref hj, .ref g1, .ref g3, .int 1, .int 0, .ref g4, .ref g6, .ref g5, .ref g8, .int 0, .ref g9, .int 0, .ref g10, .int 0, .int 1, .null])), (g3, .inl (eb, 256, .inr (.inr (.inr (.inr fb)))))] s.heap.size = A at hD hZ ⊢
  have hA : ∀ q : Nat, s.heap.size ≤ q → A q := fun q h => by rw [← hAe]; exact Or.inr h
  have hS : va_S A s.heap s.heap [] := va_S.rf
  have hl := lv_entry ([.ref hc, .int 0]) (n := 2) (Nat.le_of_ble_eq_true rfl)
  rw [lg_entry_eq]
  generalize (lg_sl ([.ref hc, .int 0]) ++ List.replicate (2 - (lg_sl ([.ref hc, .int 0])).length) Slot.unset).toArray = ls at hl ⊢
  have hl : lv_has ls 2 [(0, .ref hc), (1, .int 0)] := hl
  refine lv_iload_n hx hb d_Chain_numbered_0 rfl (lv_at hl 1 rfl) ?_
  refine lv_if_lt (tgt := 12) hx hb d_Chain_numbered_1 (by decide) (fun h => absurd h (by decide)) (fun _ => ?_)
  refine lv_iload_n hx hb d_Chain_numbered_4 rfl (lv_at hl 1 rfl) ?_
  refine lv_aload_n hx hb d_Chain_numbered_5 rfl (lv_at hl 0 rfl) ?_
  refine va_get (D := (dC, dI)) (ci := 5) (v := .int 1) (C := R_Chain) (T := F_Chain) (N := 17) hx hb hT i_Chain hown hK hP 0 rfl rfl 4 (by decide) (hT _ k_95) (fun _ h9 => h9) rfl d_Chain_numbered_6 ?_
  refine lv_icmp_lt (tgt := 16) hx hb d_Chain_numbered_9 (by decide) (fun _ => ?_) (fun h => absurd (by decide) h)
  refine lv_aload_n hx hb d_Chain_numbered_16 rfl (lv_at hl 0 rfl) ?_
  refine va_get (D := (dC, dI)) (ci := 5) (v := .ref g3) (C := R_Chain) (T := F_Chain) (N := 17) hx hb hT i_Chain hown hK hP 0 rfl rfl 3 (by decide) (hT _ k_76) (fun _ h9 => h9) rfl d_Chain_numbered_17 ?_
  refine lv_iload_n hx hb d_Chain_numbered_20 rfl (lv_at hl 1 rfl) ?_
  refine va_aldq hx hb hK hP 1 0 rfl rfl (by unfold vp_in; decide) d_Chain_numbered_21 ?_
  refine W.eq (g2 := F0 m 22 ls [.ref g6]) (by rw [sb_cl0, hb0]; rfl) ?_
  have hP9 := hP.sub (ws' := [(hc, .inr (5, [.ref hs, .ref hj, .ref g1, .ref g3, .int 1, .int 0, .ref g4, .ref g6, .ref g5, .ref g8, .int 0, .ref g9, .int 0, .ref g10, .int 0, .int 1, .null])), (g3, .inl (eb, 256, .inr (.inr (.inr (.inr fb)))))]) [0, 1] rfl
  have hD9 := hD.sub (ws' := [(hc, .inr (5, [.ref hs, .ref hj, .ref g1, .ref g3, .int 1, .int 0, .ref g4, .ref g6, .ref g5, .ref g8, .int 0, .ref g9, .int 0, .ref g10, .int 0, .int 1, .null])), (g3, .inl (eb, 256, .inr (.inr (.inr (.inr fb)))))]) [0, 1] (by decide) rfl
  have hK9 := hK.sub (tys' := []) [] rfl
  exact W.aret (v := .ref g6) hx hb hr (Or.inl ⟨_, rfl⟩) (Or.inr ⟨_, rfl⟩) (fun t9 ht9 hW9 => ⟨⟨(some g6), (), rfl, rfl, ⟨by rw [ht9]; exact hP9, va_K.moved hW9.alike hK9, hD9⟩⟩, hS.F ht9⟩) hS.2.2 d_Chain_numbered_22
set_option maxHeartbeats 4000000 in
set_option maxRecDepth 100000 in
/-- no other block -/
theorem c_Chain_numberedN (l : Launch) (dC : Nat → ClassId) (dI : Nat → Nat → Nat) (z : zT) (sz : Nat) (g1 g3 g4 g5 g6 g8 g9 g10 hs hj hc : Nat) (x : Int32) (hx0 : ¬ x = 0) : Met l y_Chain_numbered w_Chain_numbered ({ frames := 0, cells := 0, slots := 0, locals := 0 }) (va_Pc [.ref hc, .int x] (fun U => U.heap.size = sz ∧ va_P (dC, dI) cl_all [(hc, .inr (5, [.ref hs, .ref hj, .ref g1, .ref g3, .int 1, .int 0, .ref g4, .ref g6, .ref g5, .ref g8, .int 0, .ref g9, .int 0, .ref g10, .int 0, .int 1, .null]))] U.heap ∧ va_K (dC, dI) cl_all [] U ∧ va_D (fun _ => True) [(hc, .inr (5, [.ref hs, .ref hj, .ref g1, .ref g3, .int 1, .int 0, .ref g4, .ref g6, .ref g5, .ref g8, .int 0, .ref g9, .int 0, .ref g10, .int 0, .int 1, .null]))] ∧ zz z (va_A [(hc, .inr (5, [.ref hs, .ref hj, .ref g1, .ref g3, .int 1, .int 0, .ref g4, .ref g6, .ref g5, .ref g8, .int 0, .ref g9, .int 0, .ref g10, .int 0, .int 1, .null]))] sz) U U.heap)) (va_Qq (fun (r : Option Nat) (_ : Unit) => r = none) (fun _ t => va_P (dC, dI) cl_all [(hc, .inr (5, [.ref hs, .ref hj, .ref g1, .ref g3, .int 1, .int 0, .ref g4, .ref g6, .ref g5, .ref g8, .int 0, .ref g9, .int 0, .ref g10, .int 0, .int 1, .null]))] t.heap ∧ va_K (dC, dI) cl_all [] t ∧ va_D (va_A [(hc, .inr (5, [.ref hs, .ref hj, .ref g1, .ref g3, .int 1, .int 0, .ref g4, .ref g6, .ref g5, .ref g8, .int 0, .ref g9, .int 0, .ref g10, .int 0, .int 1, .null]))] sz) [(hc, .inr (5, [.ref hs, .ref hj, .ref g1, .ref g3, .int 1, .int 0, .ref g4, .ref g6, .ref g5, .ref g8, .int 0, .ref g9, .int 0, .ref g10, .int 0, .int 1, .null]))]) (va_A [(hc, .inr (5, [.ref hs, .ref hj, .ref g1, .ref g3, .int 1, .int 0, .ref g4, .ref g6, .ref g5, .ref g8, .int 0, .ref g9, .int 0, .ref g10, .int 0, .int 1, .null]))] sz)) 0 0 (va_A [(hc, .inr (5, [.ref hs, .ref hj, .ref g1, .ref g3, .int 1, .int 0, .ref g4, .ref g6, .ref g5, .ref g8, .int 0, .ref g9, .int 0, .ref g10, .int 0, .int 1, .null]))] sz) := by
  refine Met.ofW (cc := b_Chain_numbered) (maxL := 2) (ret := (some (.object "ChainLedger$Block"))) (by decide) rfl ?_
  intro p e s m args below meth c s₁ B hml hv
  obtain ⟨rfl, hsz, hP, hK, hD0, hZ⟩ := hv
  have hx := B.exec
  have hb := B.bytes
  have hr := B.returns
  have hT : ∀ w ∈ lw_all, w.before _ s = true := fun w h => atoms_spec (ws := w_Chain_numbered) B.pre w (List.mem_cons_of_mem _ h)
  have hown : s.vm.findClass R_Chain = some m.cls := findClass_of_methodNamed B.named
  have hlocks := B.notSynchronized
  subst hsz
  have hD := hD0.self (sz := s.heap.size)
  generalize hAe : va_A [(hc, .inr (5, [.ref hs, .ref hj, .ref g1, .ref g3, .int 1, .int 0, .ref g4, .ref g6, .ref g5, .ref g8, .int 0, .ref g9, .int 0, .ref g10, .int 0, .int 1, .null]))] s.heap.size = A at hD hZ ⊢
  have hA : ∀ q : Nat, s.heap.size ≤ q → A q := fun q h => by rw [← hAe]; exact Or.inr h
  have hS : va_S A s.heap s.heap [] := va_S.rf
  have hl := lv_entry ([.ref hc, .int x]) (n := 2) (Nat.le_of_ble_eq_true rfl)
  rw [lg_entry_eq]
  generalize (lg_sl ([.ref hc, .int x]) ++ List.replicate (2 - (lg_sl ([.ref hc, .int x])).length) Slot.unset).toArray = ls at hl ⊢
  have hl : lv_has ls 2 [(0, .ref hc), (1, .int x)] := hl
  refine lv_iload_n hx hb d_Chain_numbered_0 rfl (lv_at hl 1 rfl) ?_
  refine lv_if_lt (tgt := 12) hx hb d_Chain_numbered_1 (by decide) (fun c_1 => ?_) (fun c_1 => ?_)
  · refine lv_null hx hb d_Chain_numbered_12 ?_
    refine lv_goto (tgt := 22) hx hb d_Chain_numbered_13 (by decide) ?_
    have hP9 := hP.sub (ws' := [(hc, .inr (5, [.ref hs, .ref hj, .ref g1, .ref g3, .int 1, .int 0, .ref g4, .ref g6, .ref g5, .ref g8, .int 0, .ref g9, .int 0, .ref g10, .int 0, .int 1, .null]))]) [0] rfl
    have hD9 := hD.sub (ws' := [(hc, .inr (5, [.ref hs, .ref hj, .ref g1, .ref g3, .int 1, .int 0, .ref g4, .ref g6, .ref g5, .ref g8, .int 0, .ref g9, .int 0, .ref g10, .int 0, .int 1, .null]))]) [0] (by decide) rfl
    have hK9 := hK.sub (tys' := []) [] rfl
    exact W.aret (v := .null) hx hb hr (Or.inl ⟨_, rfl⟩) (Or.inl rfl) (fun t9 ht9 hW9 => ⟨⟨none, (), rfl, rfl, ⟨by rw [ht9]; exact hP9, va_K.moved hW9.alike hK9, hD9⟩⟩, hS.F ht9⟩) hS.2.2 d_Chain_numbered_22
  · refine lv_iload_n hx hb d_Chain_numbered_4 rfl (lv_at hl 1 rfl) ?_
    refine lv_aload_n hx hb d_Chain_numbered_5 rfl (lv_at hl 0 rfl) ?_
    refine va_get (D := (dC, dI)) (ci := 5) (v := .int 1) (C := R_Chain) (T := F_Chain) (N := 17) hx hb hT i_Chain hown hK hP 0 rfl rfl 4 (by decide) (hT _ k_95) (fun _ h9 => h9) rfl d_Chain_numbered_6 ?_
    refine lv_icmp_lt (tgt := 16) hx hb d_Chain_numbered_9 (by decide) (fun h => absurd h (fun h => absurd (zz_01 c_1 h) hx0)) (fun _ => ?_)
    refine lv_null hx hb d_Chain_numbered_12 ?_
    refine lv_goto (tgt := 22) hx hb d_Chain_numbered_13 (by decide) ?_
    have hP9 := hP.sub (ws' := [(hc, .inr (5, [.ref hs, .ref hj, .ref g1, .ref g3, .int 1, .int 0, .ref g4, .ref g6, .ref g5, .ref g8, .int 0, .ref g9, .int 0, .ref g10, .int 0, .int 1, .null]))]) [0] rfl
    have hD9 := hD.sub (ws' := [(hc, .inr (5, [.ref hs, .ref hj, .ref g1, .ref g3, .int 1, .int 0, .ref g4, .ref g6, .ref g5, .ref g8, .int 0, .ref g9, .int 0, .ref g10, .int 0, .int 1, .null]))]) [0] (by decide) rfl
    have hK9 := hK.sub (tys' := []) [] rfl
    exact W.aret (v := .null) hx hb hr (Or.inl ⟨_, rfl⟩) (Or.inl rfl) (fun t9 ht9 hW9 => ⟨⟨none, (), rfl, rfl, ⟨by rw [ht9]; exact hP9, va_K.moved hW9.alike hK9, hD9⟩⟩, hS.F ht9⟩) hS.2.2 d_Chain_numbered_22
set_option maxHeartbeats 4000000 in
set_option maxRecDepth 100000 in
/-- the target behind BLOCK 0 -/
theorem c_Chain_dueTarget (l : Launch) (dC : Nat → ClassId) (dI : Nat → Nat → Nat) (z : zT) (sz : Nat) (h0 g6 g7 g11 g12 : Nat)  : Met l y_Chain_dueTarget w_Chain_dueTarget ({ frames := 0, cells := 0, slots := 0, locals := 0 }) (va_Pc [.ref h0, .ref g6] (fun U => U.heap.size = sz ∧ va_P (dC, dI) cl_all [(g6, .inr (6, [.null, .int 0, .ref g7, .int 0, .int 32768, .int 0, .ref g11, .int 0, .null, .int 0, .int 0, .long 0, .int 1, .int 0, .int 1, .int 0, .ref g12]))] U.heap ∧ va_K (dC, dI) cl_all [] U ∧ va_D (fun _ => True) [(g6, .inr (6, [.null, .int 0, .ref g7, .int 0, .int 32768, .int 0, .ref g11, .int 0, .null, .int 0, .int 0, .long 0, .int 1, .int 0, .int 1, .int 0, .ref g12]))] ∧ zz z (va_A [(g6, .inr (6, [.null, .int 0, .ref g7, .int 0, .int 32768, .int 0, .ref g11, .int 0, .null, .int 0, .int 0, .long 0, .int 1, .int 0, .int 1, .int 0, .ref g12]))] sz) U U.heap)) (va_Qi (fun (r : Int32) (_ : Unit) => r = 32768) (fun _ t => va_P (dC, dI) cl_all [(g6, .inr (6, [.null, .int 0, .ref g7, .int 0, .int 32768, .int 0, .ref g11, .int 0, .null, .int 0, .int 0, .long 0, .int 1, .int 0, .int 1, .int 0, .ref g12]))] t.heap ∧ va_K (dC, dI) cl_all [] t ∧ va_D (va_A [(g6, .inr (6, [.null, .int 0, .ref g7, .int 0, .int 32768, .int 0, .ref g11, .int 0, .null, .int 0, .int 0, .long 0, .int 1, .int 0, .int 1, .int 0, .ref g12]))] sz) [(g6, .inr (6, [.null, .int 0, .ref g7, .int 0, .int 32768, .int 0, .ref g11, .int 0, .null, .int 0, .int 0, .long 0, .int 1, .int 0, .int 1, .int 0, .ref g12]))]) (va_A [(g6, .inr (6, [.null, .int 0, .ref g7, .int 0, .int 32768, .int 0, .ref g11, .int 0, .null, .int 0, .int 0, .long 0, .int 1, .int 0, .int 1, .int 0, .ref g12]))] sz)) 0 0 (va_A [(g6, .inr (6, [.null, .int 0, .ref g7, .int 0, .int 32768, .int 0, .ref g11, .int 0, .null, .int 0, .int 0, .long 0, .int 1, .int 0, .int 1, .int 0, .ref g12]))] sz) := by
  refine Met.ofW (cc := b_Chain_dueTarget) (maxL := 4) (ret := (some (.int))) (by decide) rfl ?_
  intro p e s m args below meth c s₁ B hml hv
  obtain ⟨rfl, hsz, hP, hK, hD0, hZ⟩ := hv
  have hx := B.exec
  have hb := B.bytes
  have hr := B.returns
  have hT : ∀ w ∈ lw_all, w.before _ s = true := fun w h => atoms_spec (ws := w_Chain_dueTarget) B.pre w (List.mem_cons_of_mem _ h)
  have hown : s.vm.findClass R_Chain = some m.cls := findClass_of_methodNamed B.named
  have hlocks := B.notSynchronized
  subst hsz
  have hD := hD0.self (sz := s.heap.size)
  generalize hAe : va_A [(g6, .inr (6, [.null, .int 0, .ref g7, .int 0, .int 32768, .int 0, .ref g11, .int 0, .null, .int 0, .int 0, .long 0, .int 1, .int 0, .int 1, .int 0, .ref g12]))] s.heap.size = A at hD hZ ⊢
  have hA : ∀ q : Nat, s.heap.size ≤ q → A q := fun q h => by rw [← hAe]; exact Or.inr h
  have hS : va_S A s.heap s.heap [] := va_S.rf
  have hl := lv_entry ([.ref h0, .ref g6]) (n := 4) (Nat.le_of_ble_eq_true rfl)
  rw [lg_entry_eq]
  generalize (lg_sl ([.ref h0, .ref g6]) ++ List.replicate (4 - (lg_sl ([.ref h0, .ref g6])).length) Slot.unset).toArray = ls at hl ⊢
  have hl : lv_has ls 4 [(0, .ref h0), (1, .ref g6)] := hl
  refine lv_aload_n hx hb d_Chain_dueTarget_0 rfl (lv_at hl 1 rfl) ?_
  refine va_get (D := (dC, dI)) (ci := 6) (v := .int 0) (C := R_Block) (T := F_Block) (N := 17) hx hb hT i_Block hown hK hP 0 rfl rfl 10 (by decide) (hT _ k_124) (fun _ h9 => h9) rfl d_Chain_dueTarget_1 ?_
  refine lv_iconst (v := 1) hx hb d_Chain_dueTarget_4 (by decide) ?_
  refine lv_iadd hx hb d_Chain_dueTarget_5 ?_
  refine zz_i (v := 1) (by decide) ?_
  refine lv_bipush (v := 8) hx hb d_Chain_dueTarget_6 (by decide) ?_
  refine lv_irem hx hb d_Chain_dueTarget_8 (by decide) ?_
  refine zz_i (v := 1) (by decide) ?_
  refine lv_if_eq (tgt := 17) hx hb d_Chain_dueTarget_9 (by decide) (fun h => absurd h (by decide)) (fun _ => ?_)
  refine lv_aload_n hx hb d_Chain_dueTarget_12 rfl (lv_at hl 1 rfl) ?_
  refine va_get (D := (dC, dI)) (ci := 6) (v := .int 32768) (C := R_Block) (T := F_Block) (N := 17) hx hb hT i_Block hown hK hP 0 rfl rfl 4 (by decide) (hT _ k_92) (fun _ h9 => h9) rfl d_Chain_dueTarget_13 ?_
  have hP9 := hP.sub (ws' := [(g6, .inr (6, [.null, .int 0, .ref g7, .int 0, .int 32768, .int 0, .ref g11, .int 0, .null, .int 0, .int 0, .long 0, .int 1, .int 0, .int 1, .int 0, .ref g12]))]) [0] rfl
  have hD9 := hD.sub (ws' := [(g6, .inr (6, [.null, .int 0, .ref g7, .int 0, .int 32768, .int 0, .ref g11, .int 0, .null, .int 0, .int 0, .long 0, .int 1, .int 0, .int 1, .int 0, .ref g12]))]) [0] (by decide) rfl
  have hK9 := hK.sub (tys' := []) [] rfl
  exact W.iret (v := 32768) hx hb hr (fun t9 ht9 hW9 => ⟨⟨32768, (), rfl, rfl, ⟨by rw [ht9]; exact hP9, va_K.moved hW9.alike hK9, hD9⟩⟩, hS.F ht9⟩) hS.2.2 d_Chain_dueTarget_16
set_option maxHeartbeats 4000000 in
set_option maxRecDepth 100000 in
/-- no bytes are no block -/
theorem c_Block_read (l : Launch) (dC : Nat → ClassId) (dI : Nat → Nat → Nat) (z : zT) (sz : Nat) (h0 h1 h2 h3 q1 q2 q3 : Nat)  : Met l y_Block_read w_Block_read ({ frames := 0, cells := 0, slots := 0, locals := 0 }) (va_Pc [.ref h0, .ref h1, .int 0, .ref h2, .ref h3] (fun U => U.heap.size = sz ∧ va_P (dC, dI) cl_all [(h0, .inr (6, [.null, .int 0, .ref q1, .int 0, .int 0, .int 0, .ref q2, .int 0, .null, .int 0, .int 0, .long 0, .int 0, .int 0, .int 0, .int 0, .ref q3]))] U.heap ∧ va_K (dC, dI) cl_all [] U ∧ va_D (fun _ => True) [(h0, .inr (6, [.null, .int 0, .ref q1, .int 0, .int 0, .int 0, .ref q2, .int 0, .null, .int 0, .int 0, .long 0, .int 0, .int 0, .int 0, .int 0, .ref q3]))] ∧ zz z (va_A [(h0, .inr (6, [.null, .int 0, .ref q1, .int 0, .int 0, .int 0, .ref q2, .int 0, .null, .int 0, .int 0, .long 0, .int 0, .int 0, .int 0, .int 0, .ref q3]))] sz) U U.heap)) (va_Qi (fun (r : Int32) (_ : Unit) => r = 0) (fun _ t => True) (va_A [(h0, .inr (6, [.null, .int 0, .ref q1, .int 0, .int 0, .int 0, .ref q2, .int 0, .null, .int 0, .int 0, .long 0, .int 0, .int 0, .int 0, .int 0, .ref q3]))] sz)) 0 0 (va_A [(h0, .inr (6, [.null, .int 0, .ref q1, .int 0, .int 0, .int 0, .ref q2, .int 0, .null, .int 0, .int 0, .long 0, .int 0, .int 0, .int 0, .int 0, .ref q3]))] sz) := by
  refine Met.ofW (cc := b_Block_read) (maxL := 5) (ret := (some (.boolean))) (by decide) rfl ?_
  intro p e s m args below meth c s₁ B hml hv
  obtain ⟨rfl, hsz, hP, hK, hD0, hZ⟩ := hv
  have hx := B.exec
  have hb := B.bytes
  have hr := B.returns
  have hT : ∀ w ∈ lw_all, w.before _ s = true := fun w h => atoms_spec (ws := w_Block_read) B.pre w (List.mem_cons_of_mem _ h)
  have hown : s.vm.findClass R_Block = some m.cls := findClass_of_methodNamed B.named
  have hlocks := B.notSynchronized
  subst hsz
  have hD := hD0.self (sz := s.heap.size)
  generalize hAe : va_A [(h0, .inr (6, [.null, .int 0, .ref q1, .int 0, .int 0, .int 0, .ref q2, .int 0, .null, .int 0, .int 0, .long 0, .int 0, .int 0, .int 0, .int 0, .ref q3]))] s.heap.size = A at hD hZ ⊢
  have hA : ∀ q : Nat, s.heap.size ≤ q → A q := fun q h => by rw [← hAe]; exact Or.inr h
  have hS : va_S A s.heap s.heap [] := va_S.rf
  have hl := lv_entry ([.ref h0, .ref h1, .int 0, .ref h2, .ref h3]) (n := 5) (Nat.le_of_ble_eq_true rfl)
  rw [lg_entry_eq]
  generalize (lg_sl ([.ref h0, .ref h1, .int 0, .ref h2, .ref h3]) ++ List.replicate (5 - (lg_sl ([.ref h0, .ref h1, .int 0, .ref h2, .ref h3])).length) Slot.unset).toArray = ls at hl ⊢
  have hl : lv_has ls 5 [(0, .ref h0), (1, .ref h1), (2, .int 0), (3, .ref h2), (4, .ref h3)] := hl
  refine lv_aload_n hx hb d_Block_read_0 rfl (lv_at hl 0 rfl) ?_
  refine lv_aload_n hx hb d_Block_read_1 rfl (lv_at hl 1 rfl) ?_
  refine va_put (D := (dC, dI)) (ci := 6) (v := .ref h1) (ty := .array (.byte)) (C := R_Block) (T := F_Block) (N := 17) hx hb hT i_Block t_Block t_Block_ok n_Block hown hK hP hD hS 0 rfl rfl 0 (by decide) (hT _ k_125) (fun _ h9 => h9) rfl (by decide +kernel) rfl rfl (Nat.le_of_ble_eq_true rfl) d_Block_read_2 (fun H locs hP hD hS => ?_)
  have hP : va_P (dC, dI) cl_all [(h0, .inr (6, [.ref h1, .int 0, .ref q1, .int 0, .int 0, .int 0, .ref q2, .int 0, .null, .int 0, .int 0, .long 0, .int 0, .int 0, .int 0, .int 0, .ref q3]))] H := hP
  have hD : va_D A [(h0, .inr (6, [.ref h1, .int 0, .ref q1, .int 0, .int 0, .int 0, .ref q2, .int 0, .null, .int 0, .int 0, .long 0, .int 0, .int 0, .int 0, .int 0, .ref q3]))] := hD
  refine lv_aload_n hx hb d_Block_read_5 rfl (lv_at hl 0 rfl) ?_
  refine lv_iload_n hx hb d_Block_read_6 rfl (lv_at hl 2 rfl) ?_
  refine va_put (D := (dC, dI)) (ci := 6) (v := .int 0) (ty := .int) (C := R_Block) (T := F_Block) (N := 17) hx hb hT i_Block t_Block t_Block_ok n_Block hown hK hP hD hS 0 rfl rfl 1 (by decide) (hT _ k_126) (fun _ h9 => h9) rfl (by decide +kernel) rfl rfl (Nat.le_of_ble_eq_true rfl) d_Block_read_7 (fun H locs hP hD hS => ?_)
  have hP : va_P (dC, dI) cl_all [(h0, .inr (6, [.ref h1, .int 0, .ref q1, .int 0, .int 0, .int 0, .ref q2, .int 0, .null, .int 0, .int 0, .long 0, .int 0, .int 0, .int 0, .int 0, .ref q3]))] H := hP
  have hD : va_D A [(h0, .inr (6, [.ref h1, .int 0, .ref q1, .int 0, .int 0, .int 0, .ref q2, .int 0, .null, .int 0, .int 0, .long 0, .int 0, .int 0, .int 0, .int 0, .ref q3]))] := hD
  refine lv_iload_n hx hb d_Block_read_10 rfl (lv_at hl 2 rfl) ?_
  refine lv_bipush (v := 77) hx hb d_Block_read_11 (by decide) ?_
  refine lv_icmp_ge (tgt := 18) hx hb d_Block_read_13 (by decide) (fun h => absurd h (by decide)) (fun _ => ?_)
  refine lv_iconst (v := 0) hx hb d_Block_read_16 (by decide) ?_
  exact W.zret (v := 0) hx hb hr (by decide) (fun t9 ht9 hW9 => ⟨⟨0, (), rfl, rfl, trivial⟩, hS.F ht9⟩) hS.2.2 d_Block_read_17
set_option maxHeartbeats 4000000 in
set_option maxRecDepth 100000 in
/-- no bytes: FORM -/
theorem c_Chain_receive (l : Launch) (dC : Nat → ClassId) (dI : Nat → Nat → Nat) (z : zT) (sz : Nat) (g1 g3 g4 g5 g6 g8 g9 g10 hs hj hc h1 : Nat)  : Met l y_Chain_receive w_Chain_receive ({ frames := 5, cells := 4, slots := 84, locals := 92 }) (va_Pc [.ref hc, .ref h1, .int 0] (fun U => U.heap.size = sz ∧ va_P (dC, dI) cl_all [(hc, .inr (5, [.ref hs, .ref hj, .ref g1, .ref g3, .int 1, .int 0, .ref g4, .ref g6, .ref g5, .ref g8, .int 0, .ref g9, .int 0, .ref g10, .int 0, .int 1, .null]))] U.heap ∧ va_K (dC, dI) cl_all [] U ∧ va_D (fun _ => True) [(hc, .inr (5, [.ref hs, .ref hj, .ref g1, .ref g3, .int 1, .int 0, .ref g4, .ref g6, .ref g5, .ref g8, .int 0, .ref g9, .int 0, .ref g10, .int 0, .int 1, .null]))] ∧ zz z (va_A [(hc, .inr (5, [.ref hs, .ref hj, .ref g1, .ref g3, .int 1, .int 0, .ref g4, .ref g6, .ref g5, .ref g8, .int 0, .ref g9, .int 0, .ref g10, .int 0, .int 1, .null]))] sz) U U.heap)) (va_Qi (fun (r : Int32) (_ : Unit) => r = (-3)) (fun _ t => ∃ (q9 : Nat), va_P (dC, dI) cl_all [(hc, .inr (5, [.ref hs, .ref hj, .ref g1, .ref g3, .int 1, .int 0, .ref g4, .ref g6, .ref g5, .ref g8, .int 0, .ref g9, .int 0, .ref g10, .int 0, .int 1, .ref q9]))] t.heap ∧ va_K (dC, dI) cl_all [] t ∧ va_D (va_A [(hc, .inr (5, [.ref hs, .ref hj, .ref g1, .ref g3, .int 1, .int 0, .ref g4, .ref g6, .ref g5, .ref g8, .int 0, .ref g9, .int 0, .ref g10, .int 0, .int 1, .null]))] sz) [(hc, .inr (5, [.ref hs, .ref hj, .ref g1, .ref g3, .int 1, .int 0, .ref g4, .ref g6, .ref g5, .ref g8, .int 0, .ref g9, .int 0, .ref g10, .int 0, .int 1, .ref q9]))]) (va_A [(hc, .inr (5, [.ref hs, .ref hj, .ref g1, .ref g3, .int 1, .int 0, .ref g4, .ref g6, .ref g5, .ref g8, .int 0, .ref g9, .int 0, .ref g10, .int 0, .int 1, .null]))] sz)) 4 84 (va_A [(hc, .inr (5, [.ref hs, .ref hj, .ref g1, .ref g3, .int 1, .int 0, .ref g4, .ref g6, .ref g5, .ref g8, .int 0, .ref g9, .int 0, .ref g10, .int 0, .int 1, .null]))] sz) := by
  refine Met.ofW (cc := b_Chain_receive) (maxL := 5) (ret := (some (.int))) (by decide) rfl ?_
  intro p e s m args below meth c s₁ B hml hv
  obtain ⟨rfl, hsz, hP, hK, hD0, hZ⟩ := hv
  have hx := B.exec
  have hb := B.bytes
  have hr := B.returns
  have hT : ∀ w ∈ lw_all, w.before _ s = true := fun w h => atoms_spec (ws := w_Chain_receive) B.pre w (List.mem_cons_of_mem _ h)
  have hown : s.vm.findClass R_Chain = some m.cls := findClass_of_methodNamed B.named
  have hlocks := B.notSynchronized
  subst hsz
  have hD := hD0.self (sz := s.heap.size)
  generalize hAe : va_A [(hc, .inr (5, [.ref hs, .ref hj, .ref g1, .ref g3, .int 1, .int 0, .ref g4, .ref g6, .ref g5, .ref g8, .int 0, .ref g9, .int 0, .ref g10, .int 0, .int 1, .null]))] s.heap.size = A at hD hZ ⊢
  have hA : ∀ q : Nat, s.heap.size ≤ q → A q := fun q h => by rw [← hAe]; exact Or.inr h
  have hS : va_S A s.heap s.heap [] := va_S.rf
  have hl := lv_entry ([.ref hc, .ref h1, .int 0]) (n := 5) (Nat.le_of_ble_eq_true rfl)
  rw [lg_entry_eq]
  generalize (lg_sl ([.ref hc, .ref h1, .int 0]) ++ List.replicate (5 - (lg_sl ([.ref hc, .ref h1, .int 0])).length) Slot.unset).toArray = ls at hl ⊢
  have hl : lv_has ls 5 [(0, .ref hc), (1, .ref h1), (2, .int 0)] := hl
  refine lv_aload_n hx hb d_Chain_receive_0 rfl (lv_at hl 0 rfl) ?_
  refine va_get (D := (dC, dI)) (ci := 5) (v := .null) (C := R_Chain) (T := F_Chain) (N := 17) hx hb hT i_Chain hown hK hP 0 rfl rfl 16 (by decide) (hT _ k_127) (fun _ h9 => h9) rfl d_Chain_receive_1 ?_
  refine lv_ifnonnullN hx hb d_Chain_receive_4 ?_
  refine lv_aload_n hx hb d_Chain_receive_7 rfl (lv_at hl 0 rfl) ?_
  refine va_new (ci := 6) (fs := [.null, .int 0, .null, .int 0, .int 0, .int 0, .null, .int 0, .null, .int 0, .int 0, .long 0, .int 0, .int 0, .int 0, .int 0, .null]) (C := R_Block) (T := F_Block) (N := 17) hx hb hT i_Block t_Block t_Block_ok hown (hT _ k_86) (hT _ k_87) (hT _ k_88) hK hP hD hS hA rfl (fun j hj => df_Block j hj) (Nat.le_of_ble_eq_true rfl) (Nat.le_of_ble_eq_true rfl) d_Chain_receive_8 (fun q_1 H hP hD hS => ?_)
  have hP : va_P (dC, dI) cl_all [(hc, .inr (5, [.ref hs, .ref hj, .ref g1, .ref g3, .int 1, .int 0, .ref g4, .ref g6, .ref g5, .ref g8, .int 0, .ref g9, .int 0, .ref g10, .int 0, .int 1, .null])), (q_1, .inr (6, [.null, .int 0, .null, .int 0, .int 0, .int 0, .null, .int 0, .null, .int 0, .int 0, .long 0, .int 0, .int 0, .int 0, .int 0, .null]))] H := hP
  have hD : va_D A [(hc, .inr (5, [.ref hs, .ref hj, .ref g1, .ref g3, .int 1, .int 0, .ref g4, .ref g6, .ref g5, .ref g8, .int 0, .ref g9, .int 0, .ref g10, .int 0, .int 1, .null])), (q_1, .inr (6, [.null, .int 0, .null, .int 0, .int 0, .int 0, .null, .int 0, .null, .int 0, .int 0, .long 0, .int 0, .int 0, .int 0, .int 0, .null]))] := hD
  refine W.widen (k := 1) (n := 17) (Nat.le_of_ble_eq_true rfl) (Nat.le_of_ble_eq_true rfl) ?_
  refine lv_dup hx hb d_Chain_receive_11 rfl ?_
  have hPc := hP.sub (ws' := [(q_1, .inr (6, [.null, .int 0, .null, .int 0, .int 0, .int 0, .null, .int 0, .null, .int 0, .int 0, .long 0, .int 0, .int 0, .int 0, .int 0, .null]))]) [1] rfl
  have hDc := hD.sub (ws' := [(q_1, .inr (6, [.null, .int 0, .null, .int 0, .int 0, .int 0, .null, .int 0, .null, .int 0, .int 0, .long 0, .int 0, .int 0, .int 0, .int 0, .null]))]) [1] (by decide) rfl
  have hKc := hK.sub (tys' := []) [] rfl
  have hFc := va_free (wc := [(q_1, .inr (6, [.null, .int 0, .null, .int 0, .int 0, .int 0, .null, .int 0, .null, .int 0, .int 0, .long 0, .int 0, .int 0, .int 0, .int 0, .null]))]) hD hS hA [1] rfl
  refine va_callv (va_runIN (As := []) (rest := [.ref q_1, .ref hc]) ⟨hx, hb, hml, hown, hT⟩ (c_Block_init l dC dI z H.size q_1) ⟨va_cnB (host := "ChainLedger") 0 hT g_Block_init rfl rfl rfl (zn_k_89 (zz_N hZ)) (hT _ k_88) (by decide +kernel) ⟨Nat.le_of_ble_eq_true rfl, Nat.le_of_ble_eq_true rfl⟩, rfl, (hT _ k_90)⟩ (zz_pre hPc hKc hDc hZ hS hFc) rfl rfl hl.1 rfl (lv_room (Nat.le_of_ble_eq_true rfl)) d_Chain_receive_12 ⟨Nat.le_of_ble_eq_true rfl, Nat.le_of_ble_eq_true rfl⟩) hS (fun q _ h => hFc q h) hFc (fun u9 t9 H1 locs ht9 hvm9 hw9 hB9 hz19 hk19 hS => ?_)
  obtain ⟨q_3, q_4, q_5, e_6, hP1, hK1, hD1⟩ := hB9
  rw [ht9] at hP1
  have hK := hK.app (va_K.moved hvm9.symm hK1)
  have hK : va_K (dC, dI) cl_all [(e_6, .byte)] s := hK
  obtain ⟨hP, hD⟩ := va_join (wr := [(hc, .inr (5, [.ref hs, .ref hj, .ref g1, .ref g3, .int 1, .int 0, .ref g4, .ref g6, .ref g5, .ref g8, .int 0, .ref g9, .int 0, .ref g10, .int 0, .int 1, .null]))]) (w1 := [(q_1, .inr (6, [.null, .int 0, .ref q_3, .int 0, .int 0, .int 0, .ref q_4, .int 0, .null, .int 0, .int 0, .long 0, .int 0, .int 0, .int 0, .int 0, .ref q_5])), (q_3, .inl (e_6, 32, .inl (fun _ => 0)))]) hP hD [1] [0] rfl rfl (by decide) (by decide) hk19 hFc hP1 hD1
  generalize H1 = H at hP hS ⊢
  have hP : va_P (dC, dI) cl_all [(hc, .inr (5, [.ref hs, .ref hj, .ref g1, .ref g3, .int 1, .int 0, .ref g4, .ref g6, .ref g5, .ref g8, .int 0, .ref g9, .int 0, .ref g10, .int 0, .int 1, .null])), (q_1, .inr (6, [.null, .int 0, .ref q_3, .int 0, .int 0, .int 0, .ref q_4, .int 0, .null, .int 0, .int 0, .long 0, .int 0, .int 0, .int 0, .int 0, .ref q_5])), (q_3, .inl (e_6, 32, .inl (fun _ => 0)))] H := hP
  have hD : va_D A [(hc, .inr (5, [.ref hs, .ref hj, .ref g1, .ref g3, .int 1, .int 0, .ref g4, .ref g6, .ref g5, .ref g8, .int 0, .ref g9, .int 0, .ref g10, .int 0, .int 1, .null])), (q_1, .inr (6, [.null, .int 0, .ref q_3, .int 0, .int 0, .int 0, .ref q_4, .int 0, .null, .int 0, .int 0, .long 0, .int 0, .int 0, .int 0, .int 0, .ref q_5])), (q_3, .inl (e_6, 32, .inl (fun _ => 0)))] := hD
  refine W.widen (k := 4) (n := 84) (Nat.le_of_ble_eq_true rfl) (Nat.le_of_ble_eq_true rfl) ?_
  refine va_put (D := (dC, dI)) (ci := 5) (v := .ref q_1) (ty := .object "ChainLedger$Block") (C := R_Chain) (T := F_Chain) (N := 17) hx hb hT i_Chain t_Chain t_Chain_ok n_Chain hown hK hP hD hS 0 rfl rfl 16 (by decide) (hT _ k_127) (fun _ h9 => h9) rfl (by decide +kernel) rfl rfl (Nat.le_of_ble_eq_true rfl) d_Chain_receive_15 (fun H locs hP hD hS => ?_)
  have hP : va_P (dC, dI) cl_all [(hc, .inr (5, [.ref hs, .ref hj, .ref g1, .ref g3, .int 1, .int 0, .ref g4, .ref g6, .ref g5, .ref g8, .int 0, .ref g9, .int 0, .ref g10, .int 0, .int 1, .ref q_1])), (q_1, .inr (6, [.null, .int 0, .ref q_3, .int 0, .int 0, .int 0, .ref q_4, .int 0, .null, .int 0, .int 0, .long 0, .int 0, .int 0, .int 0, .int 0, .ref q_5])), (q_3, .inl (e_6, 32, .inl (fun _ => 0)))] H := hP
  have hD : va_D A [(hc, .inr (5, [.ref hs, .ref hj, .ref g1, .ref g3, .int 1, .int 0, .ref g4, .ref g6, .ref g5, .ref g8, .int 0, .ref g9, .int 0, .ref g10, .int 0, .int 1, .ref q_1])), (q_1, .inr (6, [.null, .int 0, .ref q_3, .int 0, .int 0, .int 0, .ref q_4, .int 0, .null, .int 0, .int 0, .long 0, .int 0, .int 0, .int 0, .int 0, .ref q_5])), (q_3, .inl (e_6, 32, .inl (fun _ => 0)))] := hD
  refine lv_aload_n hx hb d_Chain_receive_18 rfl (lv_at hl 0 rfl) ?_
  refine va_get (D := (dC, dI)) (ci := 5) (v := .ref q_1) (C := R_Chain) (T := F_Chain) (N := 17) hx hb hT i_Chain hown hK hP 0 rfl rfl 16 (by decide) (hT _ k_127) (fun _ h9 => h9) rfl d_Chain_receive_19 ?_
  refine lv_astore_n (lv' := [(3, .ref q_1), (0, .ref hc), (1, .ref h1), (2, .int 0)]) hx hb d_Chain_receive_22 rfl hl (by decide) rfl (fun ls hl => ?_)
  refine lv_aload_n hx hb d_Chain_receive_23 rfl (lv_at hl 0 rfl) ?_
  refine lv_aload_n hx hb d_Chain_receive_24 rfl (lv_at hl 2 rfl) ?_
  refine lv_iload_n hx hb d_Chain_receive_25 rfl (lv_at hl 3 rfl) ?_
  refine lv_aload_n hx hb d_Chain_receive_26 rfl (lv_at hl 1 rfl) ?_
  refine va_get (D := (dC, dI)) (ci := 5) (v := .ref hs) (C := R_Chain) (T := F_Chain) (N := 17) hx hb hT i_Chain hown hK hP 0 rfl rfl 0 (by decide) (hT _ k_84) (fun _ h9 => h9) rfl d_Chain_receive_27 ?_
  refine lv_aload_n hx hb d_Chain_receive_30 rfl (lv_at hl 1 rfl) ?_
  refine va_get (D := (dC, dI)) (ci := 5) (v := .ref g5) (C := R_Chain) (T := F_Chain) (N := 17) hx hb hT i_Chain hown hK hP 0 rfl rfl 8 (by decide) (hT _ k_80) (fun _ h9 => h9) rfl d_Chain_receive_31 ?_
  have hPc := hP.sub (ws' := [(q_1, .inr (6, [.null, .int 0, .ref q_3, .int 0, .int 0, .int 0, .ref q_4, .int 0, .null, .int 0, .int 0, .long 0, .int 0, .int 0, .int 0, .int 0, .ref q_5]))]) [1] rfl
  have hDc := hD.sub (ws' := [(q_1, .inr (6, [.null, .int 0, .ref q_3, .int 0, .int 0, .int 0, .ref q_4, .int 0, .null, .int 0, .int 0, .long 0, .int 0, .int 0, .int 0, .int 0, .ref q_5]))]) [1] (by decide) rfl
  have hKc := hK.sub (tys' := []) [] rfl
  have hFc := va_free (wc := [(q_1, .inr (6, [.null, .int 0, .ref q_3, .int 0, .int 0, .int 0, .ref q_4, .int 0, .null, .int 0, .int 0, .long 0, .int 0, .int 0, .int 0, .int 0, .ref q_5]))]) hD hS hA [1] rfl
  refine va_calli (va_runV (C := R_Block) (As := [.ref h1, .int 0, .ref hs, .ref g5]) (rest := []) ⟨hx, hb, hml, hown, hT⟩ (c_Block_read l dC dI z H.size q_1 h1 hs g5 q_3 q_4 q_5) ⟨callB_of 4 hT g_Block_read rfl rfl rfl (hT _ k_88) (hT _ k_128) (by decide +kernel) ⟨Nat.le_of_ble_eq_true rfl, Nat.le_of_ble_eq_true rfl⟩, (hT _ k_129), (hT _ k_130)⟩ (zz_preV hPc hKc hDc hZ hS hFc hK hP (ci := 6) (q0 := 1) (q := (R_Block, F_Block, 17)) rfl rfl) rfl rfl hl.1 rfl (lv_room (Nat.le_of_ble_eq_true rfl)) d_Chain_receive_34 ⟨Nat.le_of_ble_eq_true rfl, Nat.le_of_ble_eq_true rfl⟩) hS (fun q _ h => hFc q h) hFc (fun r_7 u9 t9 H1 locs ht9 hvm9 hw9 hB9 hz19 hk19 hS => ?_)
  have hP1 : va_P (dC, dI) cl_all [] H1 := zz_P0
  have hD1 : va_D (va_A [(q_1, .inr (6, [.null, .int 0, .ref q_3, .int 0, .int 0, .int 0, .ref q_4, .int 0, .null, .int 0, .int 0, .long 0, .int 0, .int 0, .int 0, .int 0, .ref q_5]))] H.size) [] := zz_D0
  obtain ⟨hP, hD⟩ := va_join (wr := [(hc, .inr (5, [.ref hs, .ref hj, .ref g1, .ref g3, .int 1, .int 0, .ref g4, .ref g6, .ref g5, .ref g8, .int 0, .ref g9, .int 0, .ref g10, .int 0, .int 1, .ref q_1])), (q_3, .inl (e_6, 32, .inl (fun _ => 0)))]) (w1 := []) hP hD [1] [0, 2] rfl rfl (by decide) (by decide) hk19 hFc hP1 hD1
  generalize H1 = H at hP hS ⊢
  have hP : va_P (dC, dI) cl_all [(hc, .inr (5, [.ref hs, .ref hj, .ref g1, .ref g3, .int 1, .int 0, .ref g4, .ref g6, .ref g5, .ref g8, .int 0, .ref g9, .int 0, .ref g10, .int 0, .int 1, .ref q_1])), (q_3, .inl (e_6, 32, .inl (fun _ => 0)))] H := hP
  have hD : va_D A [(hc, .inr (5, [.ref hs, .ref hj, .ref g1, .ref g3, .int 1, .int 0, .ref g4, .ref g6, .ref g5, .ref g8, .int 0, .ref g9, .int 0, .ref g10, .int 0, .int 1, .ref q_1])), (q_3, .inl (e_6, 32, .inl (fun _ => 0)))] := hD
  refine zz_i (v := 0) hw9 ?_
  refine lv_if_ne (tgt := 43) hx hb d_Chain_receive_37 (by decide) (fun h => absurd (by decide) h) (fun _ => ?_)
  refine lv_bipush (v := -3) hx hb d_Chain_receive_40 (by decide) ?_
  have hP9 := hP.sub (ws' := [(hc, .inr (5, [.ref hs, .ref hj, .ref g1, .ref g3, .int 1, .int 0, .ref g4, .ref g6, .ref g5, .ref g8, .int 0, .ref g9, .int 0, .ref g10, .int 0, .int 1, .ref q_1]))]) [0] rfl
  have hD9 := hD.sub (ws' := [(hc, .inr (5, [.ref hs, .ref hj, .ref g1, .ref g3, .int 1, .int 0, .ref g4, .ref g6, .ref g5, .ref g8, .int 0, .ref g9, .int 0, .ref g10, .int 0, .int 1, .ref q_1]))]) [0] (by decide) rfl
  have hK9 := hK.sub (tys' := []) [] rfl
  exact W.iret (v := (-3)) hx hb hr (fun t9 ht9 hW9 => ⟨⟨(-3), (), rfl, rfl, ⟨q_1, by rw [ht9]; exact hP9, va_K.moved hW9.alike hK9, hD9⟩⟩, hS.F ht9⟩) hS.2.2 d_Chain_receive_42
set_option maxHeartbeats 4000000 in
set_option maxRecDepth 100000 in
/-- nothing is left behind -/
theorem c_Chain_listLeft (l : Launch) (dC : Nat → ClassId) (dI : Nat → Nat → Nat) (z : zT) (sz : Nat) (g1 g3 g4 g5 g6 g8 g9 g10 hs hj hc h9 g7 g11 g12 : Nat)  : Met l y_Chain_listLeft w_Chain_listLeft ({ frames := 0, cells := 0, slots := 0, locals := 0 }) (va_Pc [.ref hc, .ref g6] (fun U => U.heap.size = sz ∧ va_P (dC, dI) cl_all [(hc, .inr (5, [.ref hs, .ref hj, .ref g1, .ref g3, .int 1, .int 0, .ref g4, .ref g6, .ref g5, .ref g8, .int 0, .ref g9, .int 0, .ref g10, .int 0, .int 1, .ref h9])), (g6, .inr (6, [.null, .int 0, .ref g7, .int 0, .int 32768, .int 0, .ref g11, .int 0, .null, .int 0, .int 0, .long 0, .int 1, .int 0, .int 1, .int 0, .ref g12]))] U.heap ∧ va_K (dC, dI) cl_all [] U ∧ va_D (fun _ => True) [(hc, .inr (5, [.ref hs, .ref hj, .ref g1, .ref g3, .int 1, .int 0, .ref g4, .ref g6, .ref g5, .ref g8, .int 0, .ref g9, .int 0, .ref g10, .int 0, .int 1, .ref h9])), (g6, .inr (6, [.null, .int 0, .ref g7, .int 0, .int 32768, .int 0, .ref g11, .int 0, .null, .int 0, .int 0, .long 0, .int 1, .int 0, .int 1, .int 0, .ref g12]))] ∧ zz z (va_A [(hc, .inr (5, [.ref hs, .ref hj, .ref g1, .ref g3, .int 1, .int 0, .ref g4, .ref g6, .ref g5, .ref g8, .int 0, .ref g9, .int 0, .ref g10, .int 0, .int 1, .ref h9])), (g6, .inr (6, [.null, .int 0, .ref g7, .int 0, .int 32768, .int 0, .ref g11, .int 0, .null, .int 0, .int 0, .long 0, .int 1, .int 0, .int 1, .int 0, .ref g12]))] sz) U U.heap)) (va_Qv (fun _ : Unit => True) (fun _ t => va_P (dC, dI) cl_all [(hc, .inr (5, [.ref hs, .ref hj, .ref g1, .ref g3, .int 1, .int 0, .ref g4, .ref g6, .ref g5, .ref g8, .int 0, .ref g9, .int 0, .ref g10, .int 0, .int 1, .ref h9])), (g6, .inr (6, [.null, .int 0, .ref g7, .int 0, .int 32768, .int 0, .ref g11, .int 0, .null, .int 0, .int 0, .long 0, .int 1, .int 0, .int 1, .int 0, .ref g12]))] t.heap ∧ va_K (dC, dI) cl_all [] t ∧ va_D (va_A [(hc, .inr (5, [.ref hs, .ref hj, .ref g1, .ref g3, .int 1, .int 0, .ref g4, .ref g6, .ref g5, .ref g8, .int 0, .ref g9, .int 0, .ref g10, .int 0, .int 1, .ref h9])), (g6, .inr (6, [.null, .int 0, .ref g7, .int 0, .int 32768, .int 0, .ref g11, .int 0, .null, .int 0, .int 0, .long 0, .int 1, .int 0, .int 1, .int 0, .ref g12]))] sz) [(hc, .inr (5, [.ref hs, .ref hj, .ref g1, .ref g3, .int 1, .int 0, .ref g4, .ref g6, .ref g5, .ref g8, .int 0, .ref g9, .int 0, .ref g10, .int 0, .int 1, .ref h9])), (g6, .inr (6, [.null, .int 0, .ref g7, .int 0, .int 32768, .int 0, .ref g11, .int 0, .null, .int 0, .int 0, .long 0, .int 1, .int 0, .int 1, .int 0, .ref g12]))]) (va_A [(hc, .inr (5, [.ref hs, .ref hj, .ref g1, .ref g3, .int 1, .int 0, .ref g4, .ref g6, .ref g5, .ref g8, .int 0, .ref g9, .int 0, .ref g10, .int 0, .int 1, .ref h9])), (g6, .inr (6, [.null, .int 0, .ref g7, .int 0, .int 32768, .int 0, .ref g11, .int 0, .null, .int 0, .int 0, .long 0, .int 1, .int 0, .int 1, .int 0, .ref g12]))] sz)) 0 0 (va_A [(hc, .inr (5, [.ref hs, .ref hj, .ref g1, .ref g3, .int 1, .int 0, .ref g4, .ref g6, .ref g5, .ref g8, .int 0, .ref g9, .int 0, .ref g10, .int 0, .int 1, .ref h9])), (g6, .inr (6, [.null, .int 0, .ref g7, .int 0, .int 32768, .int 0, .ref g11, .int 0, .null, .int 0, .int 0, .long 0, .int 1, .int 0, .int 1, .int 0, .ref g12]))] sz) := by
  refine Met.ofW (cc := b_Chain_listLeft) (maxL := 3) (ret := none) (by decide) rfl ?_
  intro p e s m args below meth c s₁ B hml hv
  obtain ⟨rfl, hsz, hP, hK, hD0, hZ⟩ := hv
  have hx := B.exec
  have hb := B.bytes
  have hr := B.returns
  have hT : ∀ w ∈ lw_all, w.before _ s = true := fun w h => atoms_spec (ws := w_Chain_listLeft) B.pre w (List.mem_cons_of_mem _ h)
  have hown : s.vm.findClass R_Chain = some m.cls := findClass_of_methodNamed B.named
  have hlocks := B.notSynchronized
  subst hsz
  have hD := hD0.self (sz := s.heap.size)
  generalize hAe : va_A [(hc, .inr (5, [.ref hs, .ref hj, .ref g1, .ref g3, .int 1, .int 0, .ref g4, .ref g6, .ref g5, .ref g8, .int 0, .ref g9, .int 0, .ref g10, .int 0, .int 1, .ref h9])), (g6, .inr (6, [.null, .int 0, .ref g7, .int 0, .int 32768, .int 0, .ref g11, .int 0, .null, .int 0, .int 0, .long 0, .int 1, .int 0, .int 1, .int 0, .ref g12]))] s.heap.size = A at hD hZ ⊢
  have hA : ∀ q : Nat, s.heap.size ≤ q → A q := fun q h => by rw [← hAe]; exact Or.inr h
  have hS : va_S A s.heap s.heap [] := va_S.rf
  have hl := lv_entry ([.ref hc, .ref g6]) (n := 3) (Nat.le_of_ble_eq_true rfl)
  rw [lg_entry_eq]
  generalize (lg_sl ([.ref hc, .ref g6]) ++ List.replicate (3 - (lg_sl ([.ref hc, .ref g6])).length) Slot.unset).toArray = ls at hl ⊢
  have hl : lv_has ls 3 [(0, .ref hc), (1, .ref g6)] := hl
  refine lv_aload_n hx hb d_Chain_listLeft_0 rfl (lv_at hl 0 rfl) ?_
  refine lv_iconst (v := 0) hx hb d_Chain_listLeft_1 (by decide) ?_
  refine va_put (D := (dC, dI)) (ci := 5) (v := .int 0) (ty := .int) (C := R_Chain) (T := F_Chain) (N := 17) hx hb hT i_Chain t_Chain t_Chain_ok n_Chain hown hK hP hD hS 0 rfl rfl 10 (by decide) (hT _ k_131) (fun _ h9 => h9) rfl (by decide +kernel) rfl rfl (Nat.le_of_ble_eq_true rfl) d_Chain_listLeft_2 (fun H locs hP hD hS => ?_)
  have hP : va_P (dC, dI) cl_all [(hc, .inr (5, [.ref hs, .ref hj, .ref g1, .ref g3, .int 1, .int 0, .ref g4, .ref g6, .ref g5, .ref g8, .int 0, .ref g9, .int 0, .ref g10, .int 0, .int 1, .ref h9])), (g6, .inr (6, [.null, .int 0, .ref g7, .int 0, .int 32768, .int 0, .ref g11, .int 0, .null, .int 0, .int 0, .long 0, .int 1, .int 0, .int 1, .int 0, .ref g12]))] H := hP
  have hD : va_D A [(hc, .inr (5, [.ref hs, .ref hj, .ref g1, .ref g3, .int 1, .int 0, .ref g4, .ref g6, .ref g5, .ref g8, .int 0, .ref g9, .int 0, .ref g10, .int 0, .int 1, .ref h9])), (g6, .inr (6, [.null, .int 0, .ref g7, .int 0, .int 32768, .int 0, .ref g11, .int 0, .null, .int 0, .int 0, .long 0, .int 1, .int 0, .int 1, .int 0, .ref g12]))] := hD
  refine lv_aload_n hx hb d_Chain_listLeft_5 rfl (lv_at hl 1 rfl) ?_
  refine lv_astore_n (lv' := [(2, .ref g6), (0, .ref hc), (1, .ref g6)]) hx hb d_Chain_listLeft_6 rfl hl (by decide) rfl (fun ls hl => ?_)
  refine lv_aload_n hx hb d_Chain_listLeft_7 rfl (lv_at hl 0 rfl) ?_
  refine lv_ifnull hx hb d_Chain_listLeft_8 ?_
  refine lv_aload_n hx hb d_Chain_listLeft_11 rfl (lv_at hl 0 rfl) ?_
  refine va_get (D := (dC, dI)) (ci := 6) (v := .int 1) (C := R_Block) (T := F_Block) (N := 17) hx hb hT i_Block hown hK hP 1 rfl rfl 14 (by decide) (hT _ k_94) (fun _ h9 => h9) rfl d_Chain_listLeft_12 ?_
  refine lv_if_ne (tgt := 46) hx hb d_Chain_listLeft_15 (by decide) (fun _ => ?_) (fun h => absurd h (by decide))
  have hP9 := hP.sub (ws' := [(hc, .inr (5, [.ref hs, .ref hj, .ref g1, .ref g3, .int 1, .int 0, .ref g4, .ref g6, .ref g5, .ref g8, .int 0, .ref g9, .int 0, .ref g10, .int 0, .int 1, .ref h9])), (g6, .inr (6, [.null, .int 0, .ref g7, .int 0, .int 32768, .int 0, .ref g11, .int 0, .null, .int 0, .int 0, .long 0, .int 1, .int 0, .int 1, .int 0, .ref g12]))]) [0, 1] rfl
  have hD9 := hD.sub (ws' := [(hc, .inr (5, [.ref hs, .ref hj, .ref g1, .ref g3, .int 1, .int 0, .ref g4, .ref g6, .ref g5, .ref g8, .int 0, .ref g9, .int 0, .ref g10, .int 0, .int 1, .ref h9])), (g6, .inr (6, [.null, .int 0, .ref g7, .int 0, .int 32768, .int 0, .ref g11, .int 0, .null, .int 0, .int 0, .long 0, .int 1, .int 0, .int 1, .int 0, .ref g12]))]) [0, 1] (by decide) rfl
  have hK9 := hK.sub (tys' := []) [] rfl
  exact W.vret hx hb hr (fun t9 ht9 hW9 => ⟨⟨(), rfl, trivial, ⟨by rw [ht9]; exact hP9, va_K.moved hW9.alike hK9, hD9⟩⟩, hS.F ht9⟩) hS.2.2 d_Chain_listLeft_46
set_option maxHeartbeats 4000000 in
set_option maxRecDepth 100000 in
/-- nothing to settle -/
theorem c_Chain_settle (l : Launch) (dC : Nat → ClassId) (dI : Nat → Nat → Nat) (z : zT) (sz : Nat) (g1 g3 g4 g5 g6 g8 g9 g10 hs hj hc h9 g7 g11 g12 : Nat)  : Met l y_Chain_settle w_Chain_settle ({ frames := 1, cells := 0, slots := 0, locals := 22 }) (va_Pc [.ref hc] (fun U => U.heap.size = sz ∧ va_P (dC, dI) cl_all [(hc, .inr (5, [.ref hs, .ref hj, .ref g1, .ref g3, .int 1, .int 0, .ref g4, .ref g6, .ref g5, .ref g8, .int 0, .ref g9, .int 0, .ref g10, .int 0, .int 1, .ref h9])), (g6, .inr (6, [.null, .int 0, .ref g7, .int 0, .int 32768, .int 0, .ref g11, .int 0, .null, .int 0, .int 0, .long 0, .int 1, .int 0, .int 1, .int 0, .ref g12]))] U.heap ∧ va_K (dC, dI) cl_all [] U ∧ va_D (fun _ => True) [(hc, .inr (5, [.ref hs, .ref hj, .ref g1, .ref g3, .int 1, .int 0, .ref g4, .ref g6, .ref g5, .ref g8, .int 0, .ref g9, .int 0, .ref g10, .int 0, .int 1, .ref h9])), (g6, .inr (6, [.null, .int 0, .ref g7, .int 0, .int 32768, .int 0, .ref g11, .int 0, .null, .int 0, .int 0, .long 0, .int 1, .int 0, .int 1, .int 0, .ref g12]))] ∧ zz z (va_A [(hc, .inr (5, [.ref hs, .ref hj, .ref g1, .ref g3, .int 1, .int 0, .ref g4, .ref g6, .ref g5, .ref g8, .int 0, .ref g9, .int 0, .ref g10, .int 0, .int 1, .ref h9])), (g6, .inr (6, [.null, .int 0, .ref g7, .int 0, .int 32768, .int 0, .ref g11, .int 0, .null, .int 0, .int 0, .long 0, .int 1, .int 0, .int 1, .int 0, .ref g12]))] sz) U U.heap)) (va_Qv (fun _ : Unit => True) (fun _ t => va_P (dC, dI) cl_all [(hc, .inr (5, [.ref hs, .ref hj, .ref g1, .ref g3, .int 1, .int 0, .ref g4, .ref g6, .ref g5, .ref g8, .int 0, .ref g9, .int 0, .ref g10, .int 0, .int 1, .ref h9])), (g6, .inr (6, [.null, .int 0, .ref g7, .int 0, .int 32768, .int 0, .ref g11, .int 0, .null, .int 0, .int 0, .long 0, .int 1, .int 0, .int 1, .int 0, .ref g12]))] t.heap ∧ va_K (dC, dI) cl_all [] t ∧ va_D (va_A [(hc, .inr (5, [.ref hs, .ref hj, .ref g1, .ref g3, .int 1, .int 0, .ref g4, .ref g6, .ref g5, .ref g8, .int 0, .ref g9, .int 0, .ref g10, .int 0, .int 1, .ref h9])), (g6, .inr (6, [.null, .int 0, .ref g7, .int 0, .int 32768, .int 0, .ref g11, .int 0, .null, .int 0, .int 0, .long 0, .int 1, .int 0, .int 1, .int 0, .ref g12]))] sz) [(hc, .inr (5, [.ref hs, .ref hj, .ref g1, .ref g3, .int 1, .int 0, .ref g4, .ref g6, .ref g5, .ref g8, .int 0, .ref g9, .int 0, .ref g10, .int 0, .int 1, .ref h9])), (g6, .inr (6, [.null, .int 0, .ref g7, .int 0, .int 32768, .int 0, .ref g11, .int 0, .null, .int 0, .int 0, .long 0, .int 1, .int 0, .int 1, .int 0, .ref g12]))]) (va_A [(hc, .inr (5, [.ref hs, .ref hj, .ref g1, .ref g3, .int 1, .int 0, .ref g4, .ref g6, .ref g5, .ref g8, .int 0, .ref g9, .int 0, .ref g10, .int 0, .int 1, .ref h9])), (g6, .inr (6, [.null, .int 0, .ref g7, .int 0, .int 32768, .int 0, .ref g11, .int 0, .null, .int 0, .int 0, .long 0, .int 1, .int 0, .int 1, .int 0, .ref g12]))] sz)) 0 0 (va_A [(hc, .inr (5, [.ref hs, .ref hj, .ref g1, .ref g3, .int 1, .int 0, .ref g4, .ref g6, .ref g5, .ref g8, .int 0, .ref g9, .int 0, .ref g10, .int 0, .int 1, .ref h9])), (g6, .inr (6, [.null, .int 0, .ref g7, .int 0, .int 32768, .int 0, .ref g11, .int 0, .null, .int 0, .int 0, .long 0, .int 1, .int 0, .int 1, .int 0, .ref g12]))] sz) := by
  refine Met.ofW (cc := b_Chain_settle) (maxL := 6) (ret := none) (by decide) rfl ?_
  intro p e s m args below meth c s₁ B hml hv
  obtain ⟨rfl, hsz, hP, hK, hD0, hZ⟩ := hv
  have hx := B.exec
  have hb := B.bytes
  have hr := B.returns
  have hT : ∀ w ∈ lw_all, w.before _ s = true := fun w h => atoms_spec (ws := w_Chain_settle) B.pre w (List.mem_cons_of_mem _ h)
  have hown : s.vm.findClass R_Chain = some m.cls := findClass_of_methodNamed B.named
  have hlocks := B.notSynchronized
  subst hsz
  have hD := hD0.self (sz := s.heap.size)
  generalize hAe : va_A [(hc, .inr (5, [.ref hs, .ref hj, .ref g1, .ref g3, .int 1, .int 0, .ref g4, .ref g6, .ref g5, .ref g8, .int 0, .ref g9, .int 0, .ref g10, .int 0, .int 1, .ref h9])), (g6, .inr (6, [.null, .int 0, .ref g7, .int 0, .int 32768, .int 0, .ref g11, .int 0, .null, .int 0, .int 0, .long 0, .int 1, .int 0, .int 1, .int 0, .ref g12]))] s.heap.size = A at hD hZ ⊢
  have hA : ∀ q : Nat, s.heap.size ≤ q → A q := fun q h => by rw [← hAe]; exact Or.inr h
  have hS : va_S A s.heap s.heap [] := va_S.rf
  have hl := lv_entry ([.ref hc]) (n := 6) (Nat.le_of_ble_eq_true rfl)
  rw [lg_entry_eq]
  generalize (lg_sl ([.ref hc]) ++ List.replicate (6 - (lg_sl ([.ref hc])).length) Slot.unset).toArray = ls at hl ⊢
  have hl : lv_has ls 6 [(0, .ref hc)] := hl
  refine lv_aload_n hx hb d_Chain_settle_0 rfl (lv_at hl 0 rfl) ?_
  refine va_get (D := (dC, dI)) (ci := 5) (v := .ref g6) (C := R_Chain) (T := F_Chain) (N := 17) hx hb hT i_Chain hown hK hP 0 rfl rfl 7 (by decide) (hT _ k_97) (fun _ h9 => h9) rfl d_Chain_settle_1 ?_
  refine lv_astore_n (lv' := [(1, .ref g6), (0, .ref hc)]) hx hb d_Chain_settle_4 rfl hl (by decide) rfl (fun ls hl => ?_)
  refine lv_aload_n hx hb d_Chain_settle_5 rfl (lv_at hl 1 rfl) ?_
  refine va_get (D := (dC, dI)) (ci := 5) (v := .int 1) (C := R_Chain) (T := F_Chain) (N := 17) hx hb hT i_Chain hown hK hP 0 rfl rfl 15 (by decide) (hT _ k_96) (fun _ h9 => h9) rfl d_Chain_settle_6 ?_
  refine lv_aload_n hx hb d_Chain_settle_9 rfl (lv_at hl 1 rfl) ?_
  refine va_get (D := (dC, dI)) (ci := 5) (v := .int 1) (C := R_Chain) (T := F_Chain) (N := 17) hx hb hT i_Chain hown hK hP 0 rfl rfl 4 (by decide) (hT _ k_95) (fun _ h9 => h9) rfl d_Chain_settle_10 ?_
  refine lv_icmp_ge (tgt := 148) hx hb d_Chain_settle_13 (by decide) (fun _ => ?_) (fun h => absurd (by decide) h)
  refine lv_aload_n hx hb d_Chain_settle_148 rfl (lv_at hl 1 rfl) ?_
  refine lv_aload_n hx hb d_Chain_settle_149 rfl (lv_at hl 0 rfl) ?_
  have hPc := hP.sub (ws' := [(hc, .inr (5, [.ref hs, .ref hj, .ref g1, .ref g3, .int 1, .int 0, .ref g4, .ref g6, .ref g5, .ref g8, .int 0, .ref g9, .int 0, .ref g10, .int 0, .int 1, .ref h9])), (g6, .inr (6, [.null, .int 0, .ref g7, .int 0, .int 32768, .int 0, .ref g11, .int 0, .null, .int 0, .int 0, .long 0, .int 1, .int 0, .int 1, .int 0, .ref g12]))]) [0, 1] rfl
  have hDc := hD.sub (ws' := [(hc, .inr (5, [.ref hs, .ref hj, .ref g1, .ref g3, .int 1, .int 0, .ref g4, .ref g6, .ref g5, .ref g8, .int 0, .ref g9, .int 0, .ref g10, .int 0, .int 1, .ref h9])), (g6, .inr (6, [.null, .int 0, .ref g7, .int 0, .int 32768, .int 0, .ref g11, .int 0, .null, .int 0, .int 0, .long 0, .int 1, .int 0, .int 1, .int 0, .ref g12]))]) [0, 1] (by decide) rfl
  have hKc := hK.sub (tys' := []) [] rfl
  have hFc := va_free (wc := [(hc, .inr (5, [.ref hs, .ref hj, .ref g1, .ref g3, .int 1, .int 0, .ref g4, .ref g6, .ref g5, .ref g8, .int 0, .ref g9, .int 0, .ref g10, .int 0, .int 1, .ref h9])), (g6, .inr (6, [.null, .int 0, .ref g7, .int 0, .int 32768, .int 0, .ref g11, .int 0, .null, .int 0, .int 0, .long 0, .int 1, .int 0, .int 1, .int 0, .ref g12]))]) hD hS hA [0, 1] rfl
  refine va_callv (va_runV (C := R_Chain) (As := [.ref g6]) (rest := []) ⟨hx, hb, hml, hown, hT⟩ (c_Chain_listLeft l dC dI z s.heap.size g1 g3 g4 g5 g6 g8 g9 g10 hs hj hc h9 g7 g11 g12) ⟨callB_of 1 hT g_Chain_listLeft rfl rfl rfl (hT _ k_132) (hT _ k_133) (by decide +kernel) ⟨Nat.le_of_ble_eq_true rfl, Nat.le_of_ble_eq_true rfl⟩, (hT _ k_134), (hT _ k_135)⟩ (zz_preV hPc hKc hDc hZ hS hFc hK hP (ci := 5) (q0 := 0) (q := (R_Chain, F_Chain, 17)) rfl rfl) rfl rfl hl.1 rfl (lv_room (Nat.le_of_ble_eq_true rfl)) d_Chain_settle_150 ⟨Nat.le_of_ble_eq_true rfl, Nat.le_of_ble_eq_true rfl⟩) hS (fun q _ h => hFc q h) hFc (fun u9 t9 H1 locs ht9 hvm9 hw9 hB9 hz19 hk19 hS => ?_)
  obtain ⟨hP1, hK1, hD1⟩ := hB9
  rw [ht9] at hP1
  obtain ⟨hP, hD⟩ := va_join (wr := []) (w1 := [(hc, .inr (5, [.ref hs, .ref hj, .ref g1, .ref g3, .int 1, .int 0, .ref g4, .ref g6, .ref g5, .ref g8, .int 0, .ref g9, .int 0, .ref g10, .int 0, .int 1, .ref h9])), (g6, .inr (6, [.null, .int 0, .ref g7, .int 0, .int 32768, .int 0, .ref g11, .int 0, .null, .int 0, .int 0, .long 0, .int 1, .int 0, .int 1, .int 0, .ref g12]))]) hP hD [0, 1] [] rfl rfl (by decide) (by decide) hk19 hFc hP1 hD1
  generalize H1 = H at hP hS ⊢
  have hP : va_P (dC, dI) cl_all [(hc, .inr (5, [.ref hs, .ref hj, .ref g1, .ref g3, .int 1, .int 0, .ref g4, .ref g6, .ref g5, .ref g8, .int 0, .ref g9, .int 0, .ref g10, .int 0, .int 1, .ref h9])), (g6, .inr (6, [.null, .int 0, .ref g7, .int 0, .int 32768, .int 0, .ref g11, .int 0, .null, .int 0, .int 0, .long 0, .int 1, .int 0, .int 1, .int 0, .ref g12]))] H := hP
  have hD : va_D A [(hc, .inr (5, [.ref hs, .ref hj, .ref g1, .ref g3, .int 1, .int 0, .ref g4, .ref g6, .ref g5, .ref g8, .int 0, .ref g9, .int 0, .ref g10, .int 0, .int 1, .ref h9])), (g6, .inr (6, [.null, .int 0, .ref g7, .int 0, .int 32768, .int 0, .ref g11, .int 0, .null, .int 0, .int 0, .long 0, .int 1, .int 0, .int 1, .int 0, .ref g12]))] := hD
  have hP9 := hP.sub (ws' := [(hc, .inr (5, [.ref hs, .ref hj, .ref g1, .ref g3, .int 1, .int 0, .ref g4, .ref g6, .ref g5, .ref g8, .int 0, .ref g9, .int 0, .ref g10, .int 0, .int 1, .ref h9])), (g6, .inr (6, [.null, .int 0, .ref g7, .int 0, .int 32768, .int 0, .ref g11, .int 0, .null, .int 0, .int 0, .long 0, .int 1, .int 0, .int 1, .int 0, .ref g12]))]) [0, 1] rfl
  have hD9 := hD.sub (ws' := [(hc, .inr (5, [.ref hs, .ref hj, .ref g1, .ref g3, .int 1, .int 0, .ref g4, .ref g6, .ref g5, .ref g8, .int 0, .ref g9, .int 0, .ref g10, .int 0, .int 1, .ref h9])), (g6, .inr (6, [.null, .int 0, .ref g7, .int 0, .int 32768, .int 0, .ref g11, .int 0, .null, .int 0, .int 0, .long 0, .int 1, .int 0, .int 1, .int 0, .ref g12]))]) [0, 1] (by decide) rfl
  have hK9 := hK.sub (tys' := []) [] rfl
  exact W.vret hx hb hr (fun t9 ht9 hW9 => ⟨⟨(), rfl, trivial, ⟨by rw [ht9]; exact hP9, va_K.moved hW9.alike hK9, hD9⟩⟩, hS.F ht9⟩) hS.2.2 d_Chain_settle_153
set_option maxHeartbeats 4000000 in
set_option maxRecDepth 100000 in
/-- the tip is the same -/
theorem c_Pool_renew (l : Launch) (dC : Nat → ClassId) (dI : Nat → Nat → Nat) (z : zT) (sz : Nat) (hw g13 g14 g1 g3 g4 g5 g6 g8 g9 g10 hs hj hc h9 : Nat)  : Met l y_Pool_renew w_Pool_renew ({ frames := 0, cells := 0, slots := 0, locals := 0 }) (va_Pc [.ref hw] (fun U => U.heap.size = sz ∧ va_P (dC, dI) cl_all [(hw, .inr (9, [.ref hs, .ref hj, .ref hc, .ref g13, .ref g14, .ref g6, .null])), (hc, .inr (5, [.ref hs, .ref hj, .ref g1, .ref g3, .int 1, .int 0, .ref g4, .ref g6, .ref g5, .ref g8, .int 0, .ref g9, .int 0, .ref g10, .int 0, .int 1, .ref h9]))] U.heap ∧ va_K (dC, dI) cl_all [] U ∧ va_D (fun _ => True) [(hw, .inr (9, [.ref hs, .ref hj, .ref hc, .ref g13, .ref g14, .ref g6, .null])), (hc, .inr (5, [.ref hs, .ref hj, .ref g1, .ref g3, .int 1, .int 0, .ref g4, .ref g6, .ref g5, .ref g8, .int 0, .ref g9, .int 0, .ref g10, .int 0, .int 1, .ref h9]))] ∧ zz z (va_A [(hw, .inr (9, [.ref hs, .ref hj, .ref hc, .ref g13, .ref g14, .ref g6, .null])), (hc, .inr (5, [.ref hs, .ref hj, .ref g1, .ref g3, .int 1, .int 0, .ref g4, .ref g6, .ref g5, .ref g8, .int 0, .ref g9, .int 0, .ref g10, .int 0, .int 1, .ref h9]))] sz) U U.heap)) (va_Qv (fun _ : Unit => True) (fun _ t => True) (va_A [(hw, .inr (9, [.ref hs, .ref hj, .ref hc, .ref g13, .ref g14, .ref g6, .null])), (hc, .inr (5, [.ref hs, .ref hj, .ref g1, .ref g3, .int 1, .int 0, .ref g4, .ref g6, .ref g5, .ref g8, .int 0, .ref g9, .int 0, .ref g10, .int 0, .int 1, .ref h9]))] sz)) 0 0 (va_A [(hw, .inr (9, [.ref hs, .ref hj, .ref hc, .ref g13, .ref g14, .ref g6, .null])), (hc, .inr (5, [.ref hs, .ref hj, .ref g1, .ref g3, .int 1, .int 0, .ref g4, .ref g6, .ref g5, .ref g8, .int 0, .ref g9, .int 0, .ref g10, .int 0, .int 1, .ref h9]))] sz) := by
  refine Met.ofW (cc := b_Pool_renew) (maxL := 5) (ret := none) (by decide) rfl ?_
  intro p e s m args below meth c s₁ B hml hv
  obtain ⟨rfl, hsz, hP, hK, hD0, hZ⟩ := hv
  have hx := B.exec
  have hb := B.bytes
  have hr := B.returns
  have hT : ∀ w ∈ lw_all, w.before _ s = true := fun w h => atoms_spec (ws := w_Pool_renew) B.pre w (List.mem_cons_of_mem _ h)
  have hown : s.vm.findClass R_Pool = some m.cls := findClass_of_methodNamed B.named
  have hlocks := B.notSynchronized
  subst hsz
  have hD := hD0.self (sz := s.heap.size)
  generalize hAe : va_A [(hw, .inr (9, [.ref hs, .ref hj, .ref hc, .ref g13, .ref g14, .ref g6, .null])), (hc, .inr (5, [.ref hs, .ref hj, .ref g1, .ref g3, .int 1, .int 0, .ref g4, .ref g6, .ref g5, .ref g8, .int 0, .ref g9, .int 0, .ref g10, .int 0, .int 1, .ref h9]))] s.heap.size = A at hD hZ ⊢
  have hA : ∀ q : Nat, s.heap.size ≤ q → A q := fun q h => by rw [← hAe]; exact Or.inr h
  have hS : va_S A s.heap s.heap [] := va_S.rf
  have hl := lv_entry ([.ref hw]) (n := 5) (Nat.le_of_ble_eq_true rfl)
  rw [lg_entry_eq]
  generalize (lg_sl ([.ref hw]) ++ List.replicate (5 - (lg_sl ([.ref hw])).length) Slot.unset).toArray = ls at hl ⊢
  have hl : lv_has ls 5 [(0, .ref hw)] := hl
  refine lv_aload_n hx hb d_Pool_renew_0 rfl (lv_at hl 0 rfl) ?_
  refine va_get (D := (dC, dI)) (ci := 9) (v := .ref g6) (C := R_Pool) (T := F_Pool) (N := 7) hx hb hT i_Pool hown hK hP 0 rfl rfl 5 (by decide) (hT _ k_136) (fun _ h9 => h9) rfl d_Pool_renew_1 ?_
  refine lv_aload_n hx hb d_Pool_renew_4 rfl (lv_at hl 0 rfl) ?_
  refine va_get (D := (dC, dI)) (ci := 9) (v := .ref hc) (C := R_Pool) (T := F_Pool) (N := 7) hx hb hT i_Pool hown hK hP 0 rfl rfl 2 (by decide) (hT _ k_137) (fun _ h9 => h9) rfl d_Pool_renew_5 ?_
  refine va_get (D := (dC, dI)) (ci := 5) (v := .ref g6) (C := R_Chain) (T := F_Chain) (N := 17) hx hb hT i_Chain hown hK hP 1 rfl rfl 7 (by decide) (hT _ k_138) (fun _ h9 => h9) rfl d_Pool_renew_8 ?_
  refine lv_acmp_ne (rx := (some g6)) (ry := (some g6)) (tgt := 15) hx hb d_Pool_renew_11 (by decide) (fun h => absurd rfl h) (fun _ => ?_)
  exact W.vret hx hb hr (fun t9 ht9 hW9 => ⟨⟨(), rfl, trivial, trivial⟩, hS.F ht9⟩) hS.2.2 d_Pool_renew_14
set_option maxHeartbeats 4000000 in
set_option maxRecDepth 100000 in
/-- no bytes are no payment -/
theorem c_Payment_read (l : Launch) (dC : Nat → ClassId) (dI : Nat → Nat → Nat) (z : zT) (sz : Nat) (h0 h1 q1 q2 q3 q4 : Nat)  : Met l y_Payment_read w_Payment_read ({ frames := 0, cells := 0, slots := 0, locals := 0 }) (va_Pc [.ref h0, .ref h1, .int 0, .int 0] (fun U => U.heap.size = sz ∧ va_P (dC, dI) cl_all [(h0, .inr (7, [.null, .int 0, .int 0, .int 0, .int 0, .int 0, .int 0, .ref q1, .ref q2, .ref q3, .ref q4, .int 0, .int 0, .int 0, .int 0, .null]))] U.heap ∧ va_K (dC, dI) cl_all [] U ∧ va_D (fun _ => True) [(h0, .inr (7, [.null, .int 0, .int 0, .int 0, .int 0, .int 0, .int 0, .ref q1, .ref q2, .ref q3, .ref q4, .int 0, .int 0, .int 0, .int 0, .null]))] ∧ zz z (va_A [(h0, .inr (7, [.null, .int 0, .int 0, .int 0, .int 0, .int 0, .int 0, .ref q1, .ref q2, .ref q3, .ref q4, .int 0, .int 0, .int 0, .int 0, .null]))] sz) U U.heap)) (va_Qi (fun (r : Int32) (_ : Unit) => r = (-1)) (fun _ t => True) (va_A [(h0, .inr (7, [.null, .int 0, .int 0, .int 0, .int 0, .int 0, .int 0, .ref q1, .ref q2, .ref q3, .ref q4, .int 0, .int 0, .int 0, .int 0, .null]))] sz)) 0 0 (va_A [(h0, .inr (7, [.null, .int 0, .int 0, .int 0, .int 0, .int 0, .int 0, .ref q1, .ref q2, .ref q3, .ref q4, .int 0, .int 0, .int 0, .int 0, .null]))] sz) := by
  refine Met.ofW (cc := b_Payment_read) (maxL := 5) (ret := (some (.int))) (by decide) rfl ?_
  intro p e s m args below meth c s₁ B hml hv
  obtain ⟨rfl, hsz, hP, hK, hD0, hZ⟩ := hv
  have hx := B.exec
  have hb := B.bytes
  have hr := B.returns
  have hT : ∀ w ∈ lw_all, w.before _ s = true := fun w h => atoms_spec (ws := w_Payment_read) B.pre w (List.mem_cons_of_mem _ h)
  have hown : s.vm.findClass R_Payment = some m.cls := findClass_of_methodNamed B.named
  have hlocks := B.notSynchronized
  subst hsz
  have hD := hD0.self (sz := s.heap.size)
  generalize hAe : va_A [(h0, .inr (7, [.null, .int 0, .int 0, .int 0, .int 0, .int 0, .int 0, .ref q1, .ref q2, .ref q3, .ref q4, .int 0, .int 0, .int 0, .int 0, .null]))] s.heap.size = A at hD hZ ⊢
  have hA : ∀ q : Nat, s.heap.size ≤ q → A q := fun q h => by rw [← hAe]; exact Or.inr h
  have hS : va_S A s.heap s.heap [] := va_S.rf
  have hl := lv_entry ([.ref h0, .ref h1, .int 0, .int 0]) (n := 5) (Nat.le_of_ble_eq_true rfl)
  rw [lg_entry_eq]
  generalize (lg_sl ([.ref h0, .ref h1, .int 0, .int 0]) ++ List.replicate (5 - (lg_sl ([.ref h0, .ref h1, .int 0, .int 0])).length) Slot.unset).toArray = ls at hl ⊢
  have hl : lv_has ls 5 [(0, .ref h0), (1, .ref h1), (2, .int 0), (3, .int 0)] := hl
  refine lv_aload_n hx hb d_Payment_read_0 rfl (lv_at hl 0 rfl) ?_
  refine lv_aload_n hx hb d_Payment_read_1 rfl (lv_at hl 1 rfl) ?_
  refine va_put (D := (dC, dI)) (ci := 7) (v := .ref h1) (ty := .array (.byte)) (C := R_Payment) (T := F_Payment) (N := 16) hx hb hT i_Payment t_Payment t_Payment_ok n_Payment hown hK hP hD hS 0 rfl rfl 0 (by decide) (hT _ k_139) (fun _ h9 => h9) rfl (by decide +kernel) rfl rfl (Nat.le_of_ble_eq_true rfl) d_Payment_read_2 (fun H locs hP hD hS => ?_)
  have hP : va_P (dC, dI) cl_all [(h0, .inr (7, [.ref h1, .int 0, .int 0, .int 0, .int 0, .int 0, .int 0, .ref q1, .ref q2, .ref q3, .ref q4, .int 0, .int 0, .int 0, .int 0, .null]))] H := hP
  have hD : va_D A [(h0, .inr (7, [.ref h1, .int 0, .int 0, .int 0, .int 0, .int 0, .int 0, .ref q1, .ref q2, .ref q3, .ref q4, .int 0, .int 0, .int 0, .int 0, .null]))] := hD
  refine lv_aload_n hx hb d_Payment_read_5 rfl (lv_at hl 0 rfl) ?_
  refine lv_iload_n hx hb d_Payment_read_6 rfl (lv_at hl 2 rfl) ?_
  refine va_put (D := (dC, dI)) (ci := 7) (v := .int 0) (ty := .int) (C := R_Payment) (T := F_Payment) (N := 16) hx hb hT i_Payment t_Payment t_Payment_ok n_Payment hown hK hP hD hS 0 rfl rfl 1 (by decide) (hT _ k_140) (fun _ h9 => h9) rfl (by decide +kernel) rfl rfl (Nat.le_of_ble_eq_true rfl) d_Payment_read_7 (fun H locs hP hD hS => ?_)
  have hP : va_P (dC, dI) cl_all [(h0, .inr (7, [.ref h1, .int 0, .int 0, .int 0, .int 0, .int 0, .int 0, .ref q1, .ref q2, .ref q3, .ref q4, .int 0, .int 0, .int 0, .int 0, .null]))] H := hP
  have hD : va_D A [(h0, .inr (7, [.ref h1, .int 0, .int 0, .int 0, .int 0, .int 0, .int 0, .ref q1, .ref q2, .ref q3, .ref q4, .int 0, .int 0, .int 0, .int 0, .null]))] := hD
  refine lv_aload_n hx hb d_Payment_read_10 rfl (lv_at hl 0 rfl) ?_
  refine lv_iconst (v := 0) hx hb d_Payment_read_11 (by decide) ?_
  refine va_put (D := (dC, dI)) (ci := 7) (v := .int 0) (ty := .boolean) (C := R_Payment) (T := F_Payment) (N := 16) hx hb hT i_Payment t_Payment t_Payment_ok n_Payment hown hK hP hD hS 0 rfl rfl 11 (by decide) (hT _ k_141) (fun _ h9 => h9) rfl (by decide +kernel) (by decide) (by decide) (Nat.le_of_ble_eq_true rfl) d_Payment_read_12 (fun H locs hP hD hS => ?_)
  have hP : va_P (dC, dI) cl_all [(h0, .inr (7, [.ref h1, .int 0, .int 0, .int 0, .int 0, .int 0, .int 0, .ref q1, .ref q2, .ref q3, .ref q4, .int 0, .int 0, .int 0, .int 0, .null]))] H := hP
  have hD : va_D A [(h0, .inr (7, [.ref h1, .int 0, .int 0, .int 0, .int 0, .int 0, .int 0, .ref q1, .ref q2, .ref q3, .ref q4, .int 0, .int 0, .int 0, .int 0, .null]))] := hD
  refine lv_aload_n hx hb d_Payment_read_15 rfl (lv_at hl 0 rfl) ?_
  refine lv_null hx hb d_Payment_read_16 ?_
  refine va_put (D := (dC, dI)) (ci := 7) (v := .null) (ty := .array (.object "ChainLedger$Coin")) (C := R_Payment) (T := F_Payment) (N := 16) hx hb hT i_Payment t_Payment t_Payment_ok n_Payment hown hK hP hD hS 0 rfl rfl 15 (by decide) (hT _ k_142) (fun _ h9 => h9) rfl (by decide +kernel) rfl rfl (Nat.le_of_ble_eq_true rfl) d_Payment_read_17 (fun H locs hP hD hS => ?_)
  have hP : va_P (dC, dI) cl_all [(h0, .inr (7, [.ref h1, .int 0, .int 0, .int 0, .int 0, .int 0, .int 0, .ref q1, .ref q2, .ref q3, .ref q4, .int 0, .int 0, .int 0, .int 0, .null]))] H := hP
  have hD : va_D A [(h0, .inr (7, [.ref h1, .int 0, .int 0, .int 0, .int 0, .int 0, .int 0, .ref q1, .ref q2, .ref q3, .ref q4, .int 0, .int 0, .int 0, .int 0, .null]))] := hD
  refine lv_iload_n hx hb d_Payment_read_20 rfl (lv_at hl 3 rfl) ?_
  refine lv_iload_n hx hb d_Payment_read_21 rfl (lv_at hl 2 rfl) ?_
  refine lv_isub hx hb d_Payment_read_22 ?_
  refine zz_i (v := 0) (by decide) ?_
  refine lv_iconst (v := 5) hx hb d_Payment_read_23 (by decide) ?_
  refine lv_icmp_ge (tgt := 29) hx hb d_Payment_read_24 (by decide) (fun h => absurd h (by decide)) (fun _ => ?_)
  refine lv_iconst (v := -1) hx hb d_Payment_read_27 (by decide) ?_
  exact W.iret (v := (-1)) hx hb hr (fun t9 ht9 hW9 => ⟨⟨(-1), (), rfl, rfl, trivial⟩, hS.F ht9⟩) hS.2.2 d_Payment_read_28
set_option maxHeartbeats 4000000 in
set_option maxRecDepth 100000 in
/-- no bytes: FORM -/
theorem c_Pool_receive (l : Launch) (dC : Nat → ClassId) (dI : Nat → Nat → Nat) (z : zT) (sz : Nat) (hw g13 g14 hs hj hc g6 h1 : Nat)  : Met l y_Pool_receive w_Pool_receive ({ frames := 2, cells := 5, slots := 96, locals := 32 }) (va_Pc [.ref hw, .ref h1, .int 0] (fun U => U.heap.size = sz ∧ va_P (dC, dI) cl_all [(hw, .inr (9, [.ref hs, .ref hj, .ref hc, .ref g13, .ref g14, .ref g6, .null]))] U.heap ∧ va_K (dC, dI) cl_all [] U ∧ va_D (fun _ => True) [(hw, .inr (9, [.ref hs, .ref hj, .ref hc, .ref g13, .ref g14, .ref g6, .null]))] ∧ zz z (va_A [(hw, .inr (9, [.ref hs, .ref hj, .ref hc, .ref g13, .ref g14, .ref g6, .null]))] sz) U U.heap)) (va_Qi (fun (r : Int32) (_ : Unit) => r = (-3)) (fun _ t => True) (va_A [(hw, .inr (9, [.ref hs, .ref hj, .ref hc, .ref g13, .ref g14, .ref g6, .null]))] sz)) 5 96 (va_A [(hw, .inr (9, [.ref hs, .ref hj, .ref hc, .ref g13, .ref g14, .ref g6, .null]))] sz) := by
  refine Met.ofW (cc := b_Pool_receive) (maxL := 5) (ret := (some (.int))) (by decide) rfl ?_
  intro p e s m args below meth c s₁ B hml hv
  obtain ⟨rfl, hsz, hP, hK, hD0, hZ⟩ := hv
  have hx := B.exec
  have hb := B.bytes
  have hr := B.returns
  have hT : ∀ w ∈ lw_all, w.before _ s = true := fun w h => atoms_spec (ws := w_Pool_receive) B.pre w (List.mem_cons_of_mem _ h)
  have hown : s.vm.findClass R_Pool = some m.cls := findClass_of_methodNamed B.named
  have hlocks := B.notSynchronized
  subst hsz
  have hD := hD0.self (sz := s.heap.size)
  generalize hAe : va_A [(hw, .inr (9, [.ref hs, .ref hj, .ref hc, .ref g13, .ref g14, .ref g6, .null]))] s.heap.size = A at hD hZ ⊢
  have hA : ∀ q : Nat, s.heap.size ≤ q → A q := fun q h => by rw [← hAe]; exact Or.inr h
  have hS : va_S A s.heap s.heap [] := va_S.rf
  have hl := lv_entry ([.ref hw, .ref h1, .int 0]) (n := 5) (Nat.le_of_ble_eq_true rfl)
  rw [lg_entry_eq]
  generalize (lg_sl ([.ref hw, .ref h1, .int 0]) ++ List.replicate (5 - (lg_sl ([.ref hw, .ref h1, .int 0])).length) Slot.unset).toArray = ls at hl ⊢
  have hl : lv_has ls 5 [(0, .ref hw), (1, .ref h1), (2, .int 0)] := hl
  refine lv_aload_n hx hb d_Pool_receive_0 rfl (lv_at hl 0 rfl) ?_
  refine va_get (D := (dC, dI)) (ci := 9) (v := .null) (C := R_Pool) (T := F_Pool) (N := 7) hx hb hT i_Pool hown hK hP 0 rfl rfl 6 (by decide) (hT _ k_143) (fun _ h9 => h9) rfl d_Pool_receive_1 ?_
  refine lv_ifnonnullN hx hb d_Pool_receive_4 ?_
  refine lv_aload_n hx hb d_Pool_receive_7 rfl (lv_at hl 0 rfl) ?_
  refine va_new (ci := 7) (fs := [.null, .int 0, .int 0, .int 0, .int 0, .int 0, .int 0, .null, .null, .null, .null, .int 0, .int 0, .int 0, .int 0, .null]) (C := R_Payment) (T := F_Payment) (N := 16) hx hb hT i_Payment t_Payment t_Payment_ok hown (hT _ k_144) (hT _ k_145) (hT _ k_146) hK hP hD hS hA rfl (fun j hj => df_Payment j hj) (Nat.le_of_ble_eq_true rfl) (Nat.le_of_ble_eq_true rfl) d_Pool_receive_8 (fun q_1 H hP hD hS => ?_)
  have hP : va_P (dC, dI) cl_all [(hw, .inr (9, [.ref hs, .ref hj, .ref hc, .ref g13, .ref g14, .ref g6, .null])), (q_1, .inr (7, [.null, .int 0, .int 0, .int 0, .int 0, .int 0, .int 0, .null, .null, .null, .null, .int 0, .int 0, .int 0, .int 0, .null]))] H := hP
  have hD : va_D A [(hw, .inr (9, [.ref hs, .ref hj, .ref hc, .ref g13, .ref g14, .ref g6, .null])), (q_1, .inr (7, [.null, .int 0, .int 0, .int 0, .int 0, .int 0, .int 0, .null, .null, .null, .null, .int 0, .int 0, .int 0, .int 0, .null]))] := hD
  refine W.widen (k := 1) (n := 16) (Nat.le_of_ble_eq_true rfl) (Nat.le_of_ble_eq_true rfl) ?_
  refine lv_dup hx hb d_Pool_receive_11 rfl ?_
  have hPc := hP.sub (ws' := [(q_1, .inr (7, [.null, .int 0, .int 0, .int 0, .int 0, .int 0, .int 0, .null, .null, .null, .null, .int 0, .int 0, .int 0, .int 0, .null]))]) [1] rfl
  have hDc := hD.sub (ws' := [(q_1, .inr (7, [.null, .int 0, .int 0, .int 0, .int 0, .int 0, .int 0, .null, .null, .null, .null, .int 0, .int 0, .int 0, .int 0, .null]))]) [1] (by decide) rfl
  have hKc := hK.sub (tys' := []) [] rfl
  have hFc := va_free (wc := [(q_1, .inr (7, [.null, .int 0, .int 0, .int 0, .int 0, .int 0, .int 0, .null, .null, .null, .null, .int 0, .int 0, .int 0, .int 0, .null]))]) hD hS hA [1] rfl
  refine va_callv (va_runIN (As := []) (rest := [.ref q_1, .ref hw]) ⟨hx, hb, hml, hown, hT⟩ (c_Payment_init l dC dI z H.size q_1) ⟨va_cnB (host := "ChainLedger") 0 hT g_Payment_init rfl rfl rfl (zn_k_147 (zz_N hZ)) (hT _ k_146) (by decide +kernel) ⟨Nat.le_of_ble_eq_true rfl, Nat.le_of_ble_eq_true rfl⟩, rfl, (hT _ k_148)⟩ (zz_pre hPc hKc hDc hZ hS hFc) rfl rfl hl.1 rfl (lv_room (Nat.le_of_ble_eq_true rfl)) d_Pool_receive_12 ⟨Nat.le_of_ble_eq_true rfl, Nat.le_of_ble_eq_true rfl⟩) hS (fun q _ h => hFc q h) hFc (fun u9 t9 H1 locs ht9 hvm9 hw9 hB9 hz19 hk19 hS => ?_)
  obtain ⟨q_3, q_4, q_5, q_6, hP1, hK1, hD1⟩ := hB9
  rw [ht9] at hP1
  obtain ⟨hP, hD⟩ := va_join (wr := [(hw, .inr (9, [.ref hs, .ref hj, .ref hc, .ref g13, .ref g14, .ref g6, .null]))]) (w1 := [(q_1, .inr (7, [.null, .int 0, .int 0, .int 0, .int 0, .int 0, .int 0, .ref q_3, .ref q_4, .ref q_5, .ref q_6, .int 0, .int 0, .int 0, .int 0, .null]))]) hP hD [1] [0] rfl rfl (by decide) (by decide) hk19 hFc hP1 hD1
  generalize H1 = H at hP hS ⊢
  have hP : va_P (dC, dI) cl_all [(hw, .inr (9, [.ref hs, .ref hj, .ref hc, .ref g13, .ref g14, .ref g6, .null])), (q_1, .inr (7, [.null, .int 0, .int 0, .int 0, .int 0, .int 0, .int 0, .ref q_3, .ref q_4, .ref q_5, .ref q_6, .int 0, .int 0, .int 0, .int 0, .null]))] H := hP
  have hD : va_D A [(hw, .inr (9, [.ref hs, .ref hj, .ref hc, .ref g13, .ref g14, .ref g6, .null])), (q_1, .inr (7, [.null, .int 0, .int 0, .int 0, .int 0, .int 0, .int 0, .ref q_3, .ref q_4, .ref q_5, .ref q_6, .int 0, .int 0, .int 0, .int 0, .null]))] := hD
  refine W.widen (k := 5) (n := 96) (Nat.le_of_ble_eq_true rfl) (Nat.le_of_ble_eq_true rfl) ?_
  refine va_put (D := (dC, dI)) (ci := 9) (v := .ref q_1) (ty := .object "ChainLedger$Payment") (C := R_Pool) (T := F_Pool) (N := 7) hx hb hT i_Pool t_Pool t_Pool_ok n_Pool hown hK hP hD hS 0 rfl rfl 6 (by decide) (hT _ k_143) (fun _ h9 => h9) rfl (by decide +kernel) rfl rfl (Nat.le_of_ble_eq_true rfl) d_Pool_receive_15 (fun H locs hP hD hS => ?_)
  have hP : va_P (dC, dI) cl_all [(hw, .inr (9, [.ref hs, .ref hj, .ref hc, .ref g13, .ref g14, .ref g6, .ref q_1])), (q_1, .inr (7, [.null, .int 0, .int 0, .int 0, .int 0, .int 0, .int 0, .ref q_3, .ref q_4, .ref q_5, .ref q_6, .int 0, .int 0, .int 0, .int 0, .null]))] H := hP
  have hD : va_D A [(hw, .inr (9, [.ref hs, .ref hj, .ref hc, .ref g13, .ref g14, .ref g6, .ref q_1])), (q_1, .inr (7, [.null, .int 0, .int 0, .int 0, .int 0, .int 0, .int 0, .ref q_3, .ref q_4, .ref q_5, .ref q_6, .int 0, .int 0, .int 0, .int 0, .null]))] := hD
  refine lv_aload_n hx hb d_Pool_receive_18 rfl (lv_at hl 0 rfl) ?_
  refine va_get (D := (dC, dI)) (ci := 9) (v := .ref q_1) (C := R_Pool) (T := F_Pool) (N := 7) hx hb hT i_Pool hown hK hP 0 rfl rfl 6 (by decide) (hT _ k_143) (fun _ h9 => h9) rfl d_Pool_receive_19 ?_
  refine lv_astore_n (lv' := [(3, .ref q_1), (0, .ref hw), (1, .ref h1), (2, .int 0)]) hx hb d_Pool_receive_22 rfl hl (by decide) rfl (fun ls hl => ?_)
  refine lv_aload_n hx hb d_Pool_receive_23 rfl (lv_at hl 0 rfl) ?_
  refine lv_aload_n hx hb d_Pool_receive_24 rfl (lv_at hl 2 rfl) ?_
  refine lv_iconst (v := 0) hx hb d_Pool_receive_25 (by decide) ?_
  refine lv_iload_n hx hb d_Pool_receive_26 rfl (lv_at hl 3 rfl) ?_
  have hPc := hP.sub (ws' := [(q_1, .inr (7, [.null, .int 0, .int 0, .int 0, .int 0, .int 0, .int 0, .ref q_3, .ref q_4, .ref q_5, .ref q_6, .int 0, .int 0, .int 0, .int 0, .null]))]) [1] rfl
  have hDc := hD.sub (ws' := [(q_1, .inr (7, [.null, .int 0, .int 0, .int 0, .int 0, .int 0, .int 0, .ref q_3, .ref q_4, .ref q_5, .ref q_6, .int 0, .int 0, .int 0, .int 0, .null]))]) [1] (by decide) rfl
  have hKc := hK.sub (tys' := []) [] rfl
  have hFc := va_free (wc := [(q_1, .inr (7, [.null, .int 0, .int 0, .int 0, .int 0, .int 0, .int 0, .ref q_3, .ref q_4, .ref q_5, .ref q_6, .int 0, .int 0, .int 0, .int 0, .null]))]) hD hS hA [1] rfl
  refine va_calli (va_runV (C := R_Payment) (As := [.ref h1, .int 0, .int 0]) (rest := []) ⟨hx, hb, hml, hown, hT⟩ (c_Payment_read l dC dI z H.size q_1 h1 q_3 q_4 q_5 q_6) ⟨callB_of 3 hT g_Payment_read rfl rfl rfl (hT _ k_146) (hT _ k_149) (by decide +kernel) ⟨Nat.le_of_ble_eq_true rfl, Nat.le_of_ble_eq_true rfl⟩, (hT _ k_150), (hT _ k_151)⟩ (zz_preV hPc hKc hDc hZ hS hFc hK hP (ci := 7) (q0 := 1) (q := (R_Payment, F_Payment, 16)) rfl rfl) rfl rfl hl.1 rfl (lv_room (Nat.le_of_ble_eq_true rfl)) d_Pool_receive_27 ⟨Nat.le_of_ble_eq_true rfl, Nat.le_of_ble_eq_true rfl⟩) hS (fun q _ h => hFc q h) hFc (fun r_7 u9 t9 H1 locs ht9 hvm9 hw9 hB9 hz19 hk19 hS => ?_)
  have hP1 : va_P (dC, dI) cl_all [] H1 := zz_P0
  have hD1 : va_D (va_A [(q_1, .inr (7, [.null, .int 0, .int 0, .int 0, .int 0, .int 0, .int 0, .ref q_3, .ref q_4, .ref q_5, .ref q_6, .int 0, .int 0, .int 0, .int 0, .null]))] H.size) [] := zz_D0
  obtain ⟨hP, hD⟩ := va_join (wr := [(hw, .inr (9, [.ref hs, .ref hj, .ref hc, .ref g13, .ref g14, .ref g6, .ref q_1]))]) (w1 := []) hP hD [1] [0] rfl rfl (by decide) (by decide) hk19 hFc hP1 hD1
  generalize H1 = H at hP hS ⊢
  have hP : va_P (dC, dI) cl_all [(hw, .inr (9, [.ref hs, .ref hj, .ref hc, .ref g13, .ref g14, .ref g6, .ref q_1]))] H := hP
  have hD : va_D A [(hw, .inr (9, [.ref hs, .ref hj, .ref hc, .ref g13, .ref g14, .ref g6, .ref q_1]))] := hD
  refine zz_i (v := (-1)) hw9 ?_
  refine lv_iload_n hx hb d_Pool_receive_30 rfl (lv_at hl 3 rfl) ?_
  refine lv_icmp_eq (tgt := 37) hx hb d_Pool_receive_31 (by decide) (fun h => absurd h (by decide)) (fun _ => ?_)
  refine lv_bipush (v := -3) hx hb d_Pool_receive_34 (by decide) ?_
  exact W.iret (v := (-3)) hx hb hr (fun t9 ht9 hW9 => ⟨⟨(-3), (), rfl, rfl, trivial⟩, hS.F ht9⟩) hS.2.2 d_Pool_receive_36
set_option maxHeartbeats 4000000 in
set_option maxRecDepth 100000 in
/-- none waits -/
theorem c_Pool_fitting (l : Launch) (dC : Nat → ClassId) (dI : Nat → Nat → Nat) (z : zT) (sz : Nat) (hw g13 g14 hs hj hc g6 : Nat) (x : Int32)  : Met l y_Pool_fitting w_Pool_fitting ({ frames := 1, cells := 0, slots := 0, locals := 20 }) (va_Pc [.ref hw, .int x] (fun U => U.heap.size = sz ∧ va_P (dC, dI) cl_all [(hw, .inr (9, [.ref hs, .ref hj, .ref hc, .ref g13, .ref g14, .ref g6, .null])), (g13, .inr (10, [.int 0, .ref z.1, .int 0]))] U.heap ∧ va_K (dC, dI) cl_all [] U ∧ va_D (fun _ => True) [(hw, .inr (9, [.ref hs, .ref hj, .ref hc, .ref g13, .ref g14, .ref g6, .null])), (g13, .inr (10, [.int 0, .ref z.1, .int 0]))] ∧ zz z (va_A [(hw, .inr (9, [.ref hs, .ref hj, .ref hc, .ref g13, .ref g14, .ref g6, .null])), (g13, .inr (10, [.int 0, .ref z.1, .int 0]))] sz) U U.heap)) (va_Qi (fun (r : Int32) (_ : Unit) => r = 0) (fun _ t => va_P (dC, dI) cl_all [(hw, .inr (9, [.ref hs, .ref hj, .ref hc, .ref g13, .ref g14, .ref g6, .null])), (g13, .inr (10, [.int 0, .ref z.1, .int 0]))] t.heap ∧ va_K (dC, dI) cl_all [] t ∧ va_D (va_A [(hw, .inr (9, [.ref hs, .ref hj, .ref hc, .ref g13, .ref g14, .ref g6, .null])), (g13, .inr (10, [.int 0, .ref z.1, .int 0]))] sz) [(hw, .inr (9, [.ref hs, .ref hj, .ref hc, .ref g13, .ref g14, .ref g6, .null])), (g13, .inr (10, [.int 0, .ref z.1, .int 0]))]) (va_A [(hw, .inr (9, [.ref hs, .ref hj, .ref hc, .ref g13, .ref g14, .ref g6, .null])), (g13, .inr (10, [.int 0, .ref z.1, .int 0]))] sz)) 0 0 (va_A [(hw, .inr (9, [.ref hs, .ref hj, .ref hc, .ref g13, .ref g14, .ref g6, .null])), (g13, .inr (10, [.int 0, .ref z.1, .int 0]))] sz) := by
  refine Met.ofW (cc := b_Pool_fitting) (maxL := 4) (ret := (some (.int))) (by decide) rfl ?_
  intro p e s m args below meth c s₁ B hml hv
  obtain ⟨rfl, hsz, hP, hK, hD0, hZ⟩ := hv
  have hx := B.exec
  have hb := B.bytes
  have hr := B.returns
  have hT : ∀ w ∈ lw_all, w.before _ s = true := fun w h => atoms_spec (ws := w_Pool_fitting) B.pre w (List.mem_cons_of_mem _ h)
  have hown : s.vm.findClass R_Pool = some m.cls := findClass_of_methodNamed B.named
  have hlocks := B.notSynchronized
  subst hsz
  have hD := hD0.self (sz := s.heap.size)
  generalize hAe : va_A [(hw, .inr (9, [.ref hs, .ref hj, .ref hc, .ref g13, .ref g14, .ref g6, .null])), (g13, .inr (10, [.int 0, .ref z.1, .int 0]))] s.heap.size = A at hD hZ ⊢
  have hA : ∀ q : Nat, s.heap.size ≤ q → A q := fun q h => by rw [← hAe]; exact Or.inr h
  have hS : va_S A s.heap s.heap [] := va_S.rf
  have hl := lv_entry ([.ref hw, .int x]) (n := 4) (Nat.le_of_ble_eq_true rfl)
  rw [lg_entry_eq]
  generalize (lg_sl ([.ref hw, .int x]) ++ List.replicate (4 - (lg_sl ([.ref hw, .int x])).length) Slot.unset).toArray = ls at hl ⊢
  have hl : lv_has ls 4 [(0, .ref hw), (1, .int x)] := hl
  refine lv_iconst (v := 0) hx hb d_Pool_fitting_0 (by decide) ?_
  refine lv_istore_n (lv' := [(2, .int 0), (0, .ref hw), (1, .int x)]) hx hb d_Pool_fitting_1 rfl hl (by decide) rfl (fun ls hl => ?_)
  refine lv_iload_n hx hb d_Pool_fitting_2 rfl (lv_at hl 2 rfl) ?_
  refine lv_istore_n (lv' := [(3, .int x), (2, .int 0), (0, .ref hw), (1, .int x)]) hx hb d_Pool_fitting_3 rfl hl (by decide) rfl (fun ls hl => ?_)
  refine lv_iload_n hx hb d_Pool_fitting_4 rfl (lv_at hl 1 rfl) ?_
  refine lv_aload_n hx hb d_Pool_fitting_5 rfl (lv_at hl 2 rfl) ?_
  refine va_get (D := (dC, dI)) (ci := 9) (v := .ref g13) (C := R_Pool) (T := F_Pool) (N := 7) hx hb hT i_Pool hown hK hP 0 rfl rfl 3 (by decide) (hT _ k_152) (fun _ h9 => h9) rfl d_Pool_fitting_6 ?_
  have hPc := hP.sub (ws' := [(g13, .inr (10, [.int 0, .ref z.1, .int 0]))]) [1] rfl
  have hDc := hD.sub (ws' := [(g13, .inr (10, [.int 0, .ref z.1, .int 0]))]) [1] (by decide) rfl
  have hKc := hK.sub (tys' := []) [] rfl
  have hFc := va_free (wc := [(g13, .inr (10, [.int 0, .ref z.1, .int 0]))]) hD hS hA [1] rfl
  refine va_calli (va_runV (C := R_AL) (As := []) (rest := [.int 0]) ⟨hx, hb, hml, hown, hT⟩ (c_AL_size l dC dI z s.heap.size g13 0 (z.1) 0) ⟨callB_of 0 hT g_AL_size rfl rfl rfl (hT _ k_27) (hT _ k_153) (by decide +kernel) ⟨Nat.le_of_ble_eq_true rfl, Nat.le_of_ble_eq_true rfl⟩, (hT _ k_154), (hT _ k_155)⟩ (zz_preV hPc hKc hDc hZ hS hFc hK hP (ci := 10) (q0 := 1) (q := (R_AL, F_AL, 3)) rfl rfl) rfl rfl hl.1 rfl (lv_room (Nat.le_of_ble_eq_true rfl)) d_Pool_fitting_9 ⟨Nat.le_of_ble_eq_true rfl, Nat.le_of_ble_eq_true rfl⟩) hS (fun q _ h => hFc q h) hFc (fun r_1 u9 t9 H1 locs ht9 hvm9 hw9 hB9 hz19 hk19 hS => ?_)
  obtain ⟨hP1, hK1, hD1⟩ := hB9
  rw [ht9] at hP1
  obtain ⟨hP, hD⟩ := va_join (wr := [(hw, .inr (9, [.ref hs, .ref hj, .ref hc, .ref g13, .ref g14, .ref g6, .null]))]) (w1 := [(g13, .inr (10, [.int 0, .ref z.1, .int 0]))]) hP hD [1] [0] rfl rfl (by decide) (by decide) hk19 hFc hP1 hD1
  generalize H1 = H at hP hS ⊢
  have hP : va_P (dC, dI) cl_all [(hw, .inr (9, [.ref hs, .ref hj, .ref hc, .ref g13, .ref g14, .ref g6, .null])), (g13, .inr (10, [.int 0, .ref z.1, .int 0]))] H := hP
  have hD : va_D A [(hw, .inr (9, [.ref hs, .ref hj, .ref hc, .ref g13, .ref g14, .ref g6, .null])), (g13, .inr (10, [.int 0, .ref z.1, .int 0]))] := hD
  refine zz_i (v := 0) hw9 ?_
  refine lv_icmp_ge (tgt := 55) hx hb d_Pool_fitting_12 (by decide) (fun _ => ?_) (fun h => absurd (by decide) h)
  refine lv_iload_n hx hb d_Pool_fitting_55 rfl (lv_at hl 1 rfl) ?_
  have hP9 := hP.sub (ws' := [(hw, .inr (9, [.ref hs, .ref hj, .ref hc, .ref g13, .ref g14, .ref g6, .null])), (g13, .inr (10, [.int 0, .ref z.1, .int 0]))]) [0, 1] rfl
  have hD9 := hD.sub (ws' := [(hw, .inr (9, [.ref hs, .ref hj, .ref hc, .ref g13, .ref g14, .ref g6, .null])), (g13, .inr (10, [.int 0, .ref z.1, .int 0]))]) [0, 1] (by decide) rfl
  have hK9 := hK.sub (tys' := []) [] rfl
  exact W.iret (v := 0) hx hb hr (fun t9 ht9 hW9 => ⟨⟨0, (), rfl, rfl, ⟨by rw [ht9]; exact hP9, va_K.moved hW9.alike hK9, hD9⟩⟩, hS.F ht9⟩) hS.2.2 d_Pool_fitting_56
set_option maxHeartbeats 4000000 in
set_option maxRecDepth 100000 in
/-- no fees of none -/
theorem c_Pool_feesOf (l : Launch) (dC : Nat → ClassId) (dI : Nat → Nat → Nat) (z : zT) (sz : Nat) (hw : Nat)  : Met l y_Pool_feesOf w_Pool_feesOf ({ frames := 0, cells := 0, slots := 0, locals := 0 }) (va_Pc [.ref hw, .int 0] (fun U => U.heap.size = sz ∧ va_P (dC, dI) cl_all [] U.heap ∧ va_K (dC, dI) cl_all [] U ∧ va_D (fun _ => True) [] ∧ zz z (va_A [] sz) U U.heap)) (va_Ql (fun (r : Int64) (_ : Unit) => r = 0) (fun _ t => True) (va_A [] sz)) 0 0 (va_A [] sz) := by
  refine Met.ofW (cc := b_Pool_feesOf) (maxL := 5) (ret := (some (.long))) (by decide) rfl ?_
  intro p e s m args below meth c s₁ B hml hv
  obtain ⟨rfl, hsz, hP, hK, hD0, hZ⟩ := hv
  have hx := B.exec
  have hb := B.bytes
  have hr := B.returns
  have hT : ∀ w ∈ lw_all, w.before _ s = true := fun w h => atoms_spec (ws := w_Pool_feesOf) B.pre w (List.mem_cons_of_mem _ h)
  have hown : s.vm.findClass R_Pool = some m.cls := findClass_of_methodNamed B.named
  have hlocks := B.notSynchronized
  subst hsz
  have hD := hD0.self (sz := s.heap.size)
  generalize hAe : va_A [] s.heap.size = A at hD hZ ⊢
  have hA : ∀ q : Nat, s.heap.size ≤ q → A q := fun q h => by rw [← hAe]; exact Or.inr h
  have hS : va_S A s.heap s.heap [] := va_S.rf
  have hl := lv_entry ([.ref hw, .int 0]) (n := 5) (Nat.le_of_ble_eq_true rfl)
  rw [lg_entry_eq]
  generalize (lg_sl ([.ref hw, .int 0]) ++ List.replicate (5 - (lg_sl ([.ref hw, .int 0])).length) Slot.unset).toArray = ls at hl ⊢
  have hl : lv_has ls 5 [(0, .ref hw), (1, .int 0)] := hl
  refine lv_lconst (v := 0) hx hb d_Pool_feesOf_0 (by decide) ?_
  refine lv_lstore_n (lv' := [(2, .long 0), (0, .ref hw), (1, .int 0)]) hx hb d_Pool_feesOf_1 rfl hl (by decide) rfl (fun ls hl => ?_)
  refine lv_iconst (v := 0) hx hb d_Pool_feesOf_2 (by decide) ?_
  refine lv_istore (lv' := [(4, .int 0), (2, .long 0), (0, .ref hw), (1, .int 0)]) hx hb d_Pool_feesOf_3 hl (by decide) rfl (fun ls hl => ?_)
  refine lv_iload hx hb d_Pool_feesOf_5 (lv_at hl 0 rfl) ?_
  refine lv_iload_n hx hb d_Pool_feesOf_7 rfl (lv_at hl 3 rfl) ?_
  refine lv_icmp_ge (tgt := 48) hx hb d_Pool_feesOf_8 (by decide) (fun _ => ?_) (fun h => absurd (by decide) h)
  refine lv_lload_n hx hb d_Pool_feesOf_48 rfl (lv_at hl 1 rfl) ?_
  exact W.lret (v := 0) hx hb hr (fun t9 ht9 hW9 => ⟨⟨0, (), rfl, rfl, trivial⟩, hS.F ht9⟩) hS.2.2 d_Pool_feesOf_49
set_option maxHeartbeats 4000000 in
set_option maxRecDepth 100000 in
/-- none among none -/
theorem c_Pool_hasAmong (l : Launch) (dC : Nat → ClassId) (dI : Nat → Nat → Nat) (z : zT) (sz : Nat) (hw h1 : Nat)  : Met l y_Pool_hasAmong w_Pool_hasAmong ({ frames := 0, cells := 0, slots := 0, locals := 0 }) (va_Pc [.ref hw, .int 0, .ref h1] (fun U => U.heap.size = sz ∧ va_P (dC, dI) cl_all [] U.heap ∧ va_K (dC, dI) cl_all [] U ∧ va_D (fun _ => True) [] ∧ zz z (va_A [] sz) U U.heap)) (va_Qi (fun (r : Int32) (_ : Unit) => r = 0) (fun _ t => True) (va_A [] sz)) 0 0 (va_A [] sz) := by
  refine Met.ofW (cc := b_Pool_hasAmong) (maxL := 4) (ret := (some (.boolean))) (by decide) rfl ?_
  intro p e s m args below meth c s₁ B hml hv
  obtain ⟨rfl, hsz, hP, hK, hD0, hZ⟩ := hv
  have hx := B.exec
  have hb := B.bytes
  have hr := B.returns
  have hT : ∀ w ∈ lw_all, w.before _ s = true := fun w h => atoms_spec (ws := w_Pool_hasAmong) B.pre w (List.mem_cons_of_mem _ h)
  have hown : s.vm.findClass R_Pool = some m.cls := findClass_of_methodNamed B.named
  have hlocks := B.notSynchronized
  subst hsz
  have hD := hD0.self (sz := s.heap.size)
  generalize hAe : va_A [] s.heap.size = A at hD hZ ⊢
  have hA : ∀ q : Nat, s.heap.size ≤ q → A q := fun q h => by rw [← hAe]; exact Or.inr h
  have hS : va_S A s.heap s.heap [] := va_S.rf
  have hl := lv_entry ([.ref hw, .int 0, .ref h1]) (n := 4) (Nat.le_of_ble_eq_true rfl)
  rw [lg_entry_eq]
  generalize (lg_sl ([.ref hw, .int 0, .ref h1]) ++ List.replicate (4 - (lg_sl ([.ref hw, .int 0, .ref h1])).length) Slot.unset).toArray = ls at hl ⊢
  have hl : lv_has ls 4 [(0, .ref hw), (1, .int 0), (2, .ref h1)] := hl
  refine lv_iconst (v := 0) hx hb d_Pool_hasAmong_0 (by decide) ?_
  refine lv_istore_n (lv' := [(3, .int 0), (0, .ref hw), (1, .int 0), (2, .ref h1)]) hx hb d_Pool_hasAmong_1 rfl hl (by decide) rfl (fun ls hl => ?_)
  refine lv_iload_n hx hb d_Pool_hasAmong_2 rfl (lv_at hl 0 rfl) ?_
  refine lv_iload_n hx hb d_Pool_hasAmong_3 rfl (lv_at hl 2 rfl) ?_
  refine lv_icmp_ge (tgt := 51) hx hb d_Pool_hasAmong_4 (by decide) (fun _ => ?_) (fun h => absurd (by decide) h)
  refine lv_iconst (v := 0) hx hb d_Pool_hasAmong_51 (by decide) ?_
  exact W.zret (v := 0) hx hb hr (by decide) (fun t9 ht9 hW9 => ⟨⟨0, (), rfl, rfl, trivial⟩, hS.F ht9⟩) hS.2.2 d_Pool_hasAmong_52
set_option maxHeartbeats 4000000 in
set_option maxRecDepth 100000 in
/-- no coins -/
theorem c_Coins_total (l : Launch) (dC : Nat → ClassId) (dI : Nat → Nat → Nat) (z : zT) (sz : Nat) (h0 h1 : Nat)  : Met l y_Coins_total w_Coins_total ({ frames := 1, cells := 0, slots := 0, locals := 20 }) (va_Pc [.ref h0] (fun U => U.heap.size = sz ∧ va_P (dC, dI) cl_all [(h0, .inr (8, [.ref h1])), (h1, .inr (10, [.int 0, .ref z.1, .int 0]))] U.heap ∧ va_K (dC, dI) cl_all [] U ∧ va_D (fun _ => True) [(h0, .inr (8, [.ref h1])), (h1, .inr (10, [.int 0, .ref z.1, .int 0]))] ∧ zz z (va_A [(h0, .inr (8, [.ref h1])), (h1, .inr (10, [.int 0, .ref z.1, .int 0]))] sz) U U.heap)) (va_Ql (fun (r : Int64) (_ : Unit) => r = 0) (fun _ t => True) (va_A [(h0, .inr (8, [.ref h1])), (h1, .inr (10, [.int 0, .ref z.1, .int 0]))] sz)) 0 0 (va_A [(h0, .inr (8, [.ref h1])), (h1, .inr (10, [.int 0, .ref z.1, .int 0]))] sz) := by
  refine Met.ofW (cc := b_Coins_total) (maxL := 4) (ret := (some (.long))) (by decide) rfl ?_
  intro p e s m args below meth c s₁ B hml hv
  obtain ⟨rfl, hsz, hP, hK, hD0, hZ⟩ := hv
  have hx := B.exec
  have hb := B.bytes
  have hr := B.returns
  have hT : ∀ w ∈ lw_all, w.before _ s = true := fun w h => atoms_spec (ws := w_Coins_total) B.pre w (List.mem_cons_of_mem _ h)
  have hown : s.vm.findClass R_Coins = some m.cls := findClass_of_methodNamed B.named
  have hlocks := B.notSynchronized
  subst hsz
  have hD := hD0.self (sz := s.heap.size)
  generalize hAe : va_A [(h0, .inr (8, [.ref h1])), (h1, .inr (10, [.int 0, .ref z.1, .int 0]))] s.heap.size = A at hD hZ ⊢
  have hA : ∀ q : Nat, s.heap.size ≤ q → A q := fun q h => by rw [← hAe]; exact Or.inr h
  have hS : va_S A s.heap s.heap [] := va_S.rf
  have hl := lv_entry ([.ref h0]) (n := 4) (Nat.le_of_ble_eq_true rfl)
  rw [lg_entry_eq]
  generalize (lg_sl ([.ref h0]) ++ List.replicate (4 - (lg_sl ([.ref h0])).length) Slot.unset).toArray = ls at hl ⊢
  have hl : lv_has ls 4 [(0, .ref h0)] := hl
  refine lv_lconst (v := 0) hx hb d_Coins_total_0 (by decide) ?_
  refine lv_lstore_n (lv' := [(1, .long 0), (0, .ref h0)]) hx hb d_Coins_total_1 rfl hl (by decide) rfl (fun ls hl => ?_)
  refine lv_iconst (v := 0) hx hb d_Coins_total_2 (by decide) ?_
  refine lv_istore_n (lv' := [(3, .int 0), (1, .long 0), (0, .ref h0)]) hx hb d_Coins_total_3 rfl hl (by decide) rfl (fun ls hl => ?_)
  refine lv_iload_n hx hb d_Coins_total_4 rfl (lv_at hl 0 rfl) ?_
  refine lv_aload_n hx hb d_Coins_total_5 rfl (lv_at hl 2 rfl) ?_
  refine va_get (D := (dC, dI)) (ci := 8) (v := .ref h1) (C := R_Coins) (T := F_Coins) (N := 1) hx hb hT i_Coins hown hK hP 0 rfl rfl 0 (by decide) (hT _ k_41) (fun _ h9 => h9) rfl d_Coins_total_6 ?_
  have hPc := hP.sub (ws' := [(h1, .inr (10, [.int 0, .ref z.1, .int 0]))]) [1] rfl
  have hDc := hD.sub (ws' := [(h1, .inr (10, [.int 0, .ref z.1, .int 0]))]) [1] (by decide) rfl
  have hKc := hK.sub (tys' := []) [] rfl
  have hFc := va_free (wc := [(h1, .inr (10, [.int 0, .ref z.1, .int 0]))]) hD hS hA [1] rfl
  refine va_calli (va_runV (C := R_AL) (As := []) (rest := [.int 0]) ⟨hx, hb, hml, hown, hT⟩ (c_AL_size l dC dI z s.heap.size h1 0 (z.1) 0) ⟨callB_of 0 hT g_AL_size rfl rfl rfl (hT _ k_27) (hT _ k_156) (by decide +kernel) ⟨Nat.le_of_ble_eq_true rfl, Nat.le_of_ble_eq_true rfl⟩, (hT _ k_154), (hT _ k_155)⟩ (zz_preV hPc hKc hDc hZ hS hFc hK hP (ci := 10) (q0 := 1) (q := (R_AL, F_AL, 3)) rfl rfl) rfl rfl hl.1 rfl (lv_room (Nat.le_of_ble_eq_true rfl)) d_Coins_total_9 ⟨Nat.le_of_ble_eq_true rfl, Nat.le_of_ble_eq_true rfl⟩) hS (fun q _ h => hFc q h) hFc (fun r_1 u9 t9 H1 locs ht9 hvm9 hw9 hB9 hz19 hk19 hS => ?_)
  obtain ⟨hP1, hK1, hD1⟩ := hB9
  rw [ht9] at hP1
  obtain ⟨hP, hD⟩ := va_join (wr := [(h0, .inr (8, [.ref h1]))]) (w1 := [(h1, .inr (10, [.int 0, .ref z.1, .int 0]))]) hP hD [1] [0] rfl rfl (by decide) (by decide) hk19 hFc hP1 hD1
  generalize H1 = H at hP hS ⊢
  have hP : va_P (dC, dI) cl_all [(h0, .inr (8, [.ref h1])), (h1, .inr (10, [.int 0, .ref z.1, .int 0]))] H := hP
  have hD : va_D A [(h0, .inr (8, [.ref h1])), (h1, .inr (10, [.int 0, .ref z.1, .int 0]))] := hD
  refine zz_i (v := 0) hw9 ?_
  refine lv_icmp_ge (tgt := 39) hx hb d_Coins_total_12 (by decide) (fun _ => ?_) (fun h => absurd (by decide) h)
  refine lv_lload_n hx hb d_Coins_total_39 rfl (lv_at hl 1 rfl) ?_
  exact W.lret (v := 0) hx hb hr (fun t9 ht9 hW9 => ⟨⟨0, (), rfl, rfl, trivial⟩, hS.F ht9⟩) hS.2.2 d_Coins_total_40
set_option maxHeartbeats 4000000 in
set_option maxRecDepth 100000 in
/-- OUT is nothing -/
theorem c_CL_readOutPayment (l : Launch) (dC : Nat → ClassId) (dI : Nat → Nat → Nat) (z : zT) (sz : Nat) (h0 ht ho hs hj hc hw hy hq : Nat)  : Met l y_CL_readOutPayment w_CL_readOutPayment ({ frames := 0, cells := 0, slots := 0, locals := 0 }) (va_Pc [.ref h0] (fun U => U.heap.size = sz ∧ va_P (dC, dI) cl_all [(h0, .inr (0, [.ref ht, .ref ho, .int 0, .int 0, .ref hs, .ref hj, .ref hc, .ref hw, .ref hy, .ref hq]))] U.heap ∧ va_K (dC, dI) cl_all [] U ∧ va_D (fun _ => True) [(h0, .inr (0, [.ref ht, .ref ho, .int 0, .int 0, .ref hs, .ref hj, .ref hc, .ref hw, .ref hy, .ref hq]))] ∧ zz z (va_A [(h0, .inr (0, [.ref ht, .ref ho, .int 0, .int 0, .ref hs, .ref hj, .ref hc, .ref hw, .ref hy, .ref hq]))] sz) U U.heap)) (va_Qi (fun (r : Int32) (_ : Unit) => r = 0) (fun _ t => True) (va_A [(h0, .inr (0, [.ref ht, .ref ho, .int 0, .int 0, .ref hs, .ref hj, .ref hc, .ref hw, .ref hy, .ref hq]))] sz)) 0 0 (va_A [(h0, .inr (0, [.ref ht, .ref ho, .int 0, .int 0, .ref hs, .ref hj, .ref hc, .ref hw, .ref hy, .ref hq]))] sz) := by
  refine Met.ofW (cc := b_CL_readOutPayment) (maxL := 1) (ret := (some (.boolean))) (by decide) rfl ?_
  intro p e s m args below meth c s₁ B hml hv
  obtain ⟨rfl, hsz, hP, hK, hD0, hZ⟩ := hv
  have hx := B.exec
  have hb := B.bytes
  have hr := B.returns
  have hT : ∀ w ∈ lw_all, w.before _ s = true := fun w h => atoms_spec (ws := w_CL_readOutPayment) B.pre w (List.mem_cons_of_mem _ h)
  have hown : s.vm.findClass R_CL = some m.cls := findClass_of_methodNamed B.named
  have hlocks := B.notSynchronized
  subst hsz
  have hD := hD0.self (sz := s.heap.size)
  generalize hAe : va_A [(h0, .inr (0, [.ref ht, .ref ho, .int 0, .int 0, .ref hs, .ref hj, .ref hc, .ref hw, .ref hy, .ref hq]))] s.heap.size = A at hD hZ ⊢
  have hA : ∀ q : Nat, s.heap.size ≤ q → A q := fun q h => by rw [← hAe]; exact Or.inr h
  have hS : va_S A s.heap s.heap [] := va_S.rf
  have hl := lv_entry ([.ref h0]) (n := 1) (Nat.le_of_ble_eq_true rfl)
  rw [lg_entry_eq]
  generalize (lg_sl ([.ref h0]) ++ List.replicate (1 - (lg_sl ([.ref h0])).length) Slot.unset).toArray = ls at hl ⊢
  have hl : lv_has ls 1 [(0, .ref h0)] := hl
  refine lv_aload_n hx hb d_CL_readOutPayment_0 rfl (lv_at hl 0 rfl) ?_
  refine va_get (D := (dC, dI)) (ci := 0) (v := .int 0) (C := R_CL) (T := F_CL) (N := 10) hx hb hT i_CL hown hK hP 0 rfl rfl 2 (by decide) (hT _ k_157) (fun _ h9 => h9) rfl d_CL_readOutPayment_1 ?_
  refine lv_iconst (v := 2) hx hb d_CL_readOutPayment_4 (by decide) ?_
  refine lv_icmp_ne (tgt := 44) hx hb d_CL_readOutPayment_5 (by decide) (fun _ => ?_) (fun h => absurd h (by decide))
  refine lv_iconst (v := 0) hx hb d_CL_readOutPayment_44 (by decide) ?_
  exact W.zret (v := 0) hx hb hr (by decide) (fun t9 ht9 hW9 => ⟨⟨0, (), rfl, rfl, trivial⟩, hS.F ht9⟩) hS.2.2 d_CL_readOutPayment_45
