set_option maxHeartbeats 4000000 in
set_option maxRecDepth 100000 in
/-- putNumber: four bytes of the row change -/
theorem c_CL_putNumber (l : Launch) (dC : Nat → ClassId) (dI : Nat → Nat → Nat) (z : zT) (sz : Nat) (h0 : Nat) (eb : ClassId) (N : Nat) (f : Nat → Int32) (k : Nat) (x : Int32) (hf_f : sb_Fit f) (hk : k + 4 ≤ N) (hN : N < 2 ^ 31) : Met l y_CL_putNumber w_CL_putNumber ({ frames := 0, cells := 0, slots := 0, locals := 0 }) (va_Pc [.ref h0, .int (nI k), .int x] (fun U => U.heap.size = sz ∧ va_P (dC, dI) cl_all [(h0, .inl (eb, N, .inl f))] U.heap ∧ va_K (dC, dI) cl_all [(eb, .byte)] U ∧ va_D (fun _ => True) [(h0, .inl (eb, N, .inl f))] ∧ zz z (va_A [(h0, .inl (eb, N, .inl f))] sz) U U.heap)) (va_Qv (fun _ : Unit => True) (fun _ t => ∃ (g : Nat → Int32), sb_Fit g ∧ va_P (dC, dI) cl_all [(h0, .inl (eb, N, .inl g))] t.heap ∧ va_K (dC, dI) cl_all [] t ∧ va_D (va_A [(h0, .inl (eb, N, .inl f))] sz) [(h0, .inl (eb, N, .inl g))]) (va_A [(h0, .inl (eb, N, .inl f))] sz)) 0 0 (va_A [(h0, .inl (eb, N, .inl f))] sz) := by
  refine Met.ofW (cc := b_CL_putNumber) (maxL := 3) (ret := none) (by decide) rfl ?_
  intro p e s m args below meth c s₁ B hml hv
  obtain ⟨rfl, hsz, hP, hK, hD0, hZ⟩ := hv
  have hx := B.exec
  have hb := B.bytes
  have hr := B.returns
  have hT : ∀ w ∈ lw_all, w.before _ s = true := fun w h => atoms_spec (ws := w_CL_putNumber) B.pre w (List.mem_cons_of_mem _ h)
  have hown : s.vm.findClass R_CL = some m.cls := findClass_of_methodNamed B.named
  have hlocks := B.notSynchronized
  subst hsz
  have hD := hD0.self (sz := s.heap.size)
  generalize hAe : va_A [(h0, .inl (eb, N, .inl f))] s.heap.size = A at hD hZ ⊢
  have hA : ∀ q : Nat, s.heap.size ≤ q → A q := fun q h => by rw [← hAe]; exact Or.inr h
  have hS : va_S A s.heap s.heap [] := va_S.rf
  have hl := lv_entry ([.ref h0, .int (nI k), .int x]) (n := 3) (Nat.le_of_ble_eq_true rfl)
  rw [lg_entry_eq]
  generalize (lg_sl ([.ref h0, .int (nI k), .int x]) ++ List.replicate (3 - (lg_sl ([.ref h0, .int (nI k), .int x])).length) Slot.unset).toArray = ls at hl ⊢
  have hl : lv_has ls 3 [(0, .ref h0), (1, .int (nI k)), (2, .int x)] := hl
  refine lv_aload_n hx hb d_CL_putNumber_0 rfl (lv_at hl 0 rfl) ?_
  refine lv_iload_n hx hb d_CL_putNumber_1 rfl (lv_at hl 1 rfl) ?_
  refine lv_iload_n hx hb d_CL_putNumber_2 rfl (lv_at hl 2 rfl) ?_
  refine lv_bipush (v := 24) hx hb d_CL_putNumber_3 (by decide) ?_
  refine lv_ishr hx hb d_CL_putNumber_5 ?_
  refine lv_topi (fun x_1 _ => ?_)
  refine lv_i2b hx hb d_CL_putNumber_6 rfl ?_
  refine lv_topi (fun x_2 _ => ?_)
  refine zz_bast hx hb hK hP hD hS 0 0 rfl rfl (vp_in_nI (by omega) (by omega)) hf_f d_CL_putNumber_7 (fun f_3 hf_4 H locs hP hD hS => ?_)
  have hP : va_P (dC, dI) cl_all [(h0, .inl (eb, N, .inl f_3))] H := hP
  have hD : va_D A [(h0, .inl (eb, N, .inl f_3))] := hD
  refine lv_aload_n hx hb d_CL_putNumber_8 rfl (lv_at hl 0 rfl) ?_
  refine lv_iload_n hx hb d_CL_putNumber_9 rfl (lv_at hl 1 rfl) ?_
  refine lv_iconst (v := 1) hx hb d_CL_putNumber_10 (by decide) ?_
  refine lv_iadd hx hb d_CL_putNumber_11 ?_
  refine zz_i (v := nI ((k) + 1)) (nI_add (k) 1) ?_
  refine lv_iload_n hx hb d_CL_putNumber_12 rfl (lv_at hl 2 rfl) ?_
  refine lv_bipush (v := 16) hx hb d_CL_putNumber_13 (by decide) ?_
  refine lv_ishr hx hb d_CL_putNumber_15 ?_
  refine lv_topi (fun x_5 _ => ?_)
  refine lv_i2b hx hb d_CL_putNumber_16 rfl ?_
  refine lv_topi (fun x_6 _ => ?_)
  refine zz_bast hx hb hK hP hD hS 0 0 rfl rfl (vp_in_nI (by omega) (by omega)) hf_4 d_CL_putNumber_17 (fun f_7 hf_8 H locs hP hD hS => ?_)
  have hP : va_P (dC, dI) cl_all [(h0, .inl (eb, N, .inl f_7))] H := hP
  have hD : va_D A [(h0, .inl (eb, N, .inl f_7))] := hD
  refine lv_aload_n hx hb d_CL_putNumber_18 rfl (lv_at hl 0 rfl) ?_
  refine lv_iload_n hx hb d_CL_putNumber_19 rfl (lv_at hl 1 rfl) ?_
  refine lv_iconst (v := 2) hx hb d_CL_putNumber_20 (by decide) ?_
  refine lv_iadd hx hb d_CL_putNumber_21 ?_
  refine zz_i (v := nI ((k) + 2)) (nI_add (k) 2) ?_
  refine lv_iload_n hx hb d_CL_putNumber_22 rfl (lv_at hl 2 rfl) ?_
  refine lv_bipush (v := 8) hx hb d_CL_putNumber_23 (by decide) ?_
  refine lv_ishr hx hb d_CL_putNumber_25 ?_
  refine lv_topi (fun x_9 _ => ?_)
  refine lv_i2b hx hb d_CL_putNumber_26 rfl ?_
  refine lv_topi (fun x_10 _ => ?_)
  refine zz_bast hx hb hK hP hD hS 0 0 rfl rfl (vp_in_nI (by omega) (by omega)) hf_8 d_CL_putNumber_27 (fun f_11 hf_12 H locs hP hD hS => ?_)
  have hP : va_P (dC, dI) cl_all [(h0, .inl (eb, N, .inl f_11))] H := hP
  have hD : va_D A [(h0, .inl (eb, N, .inl f_11))] := hD
  refine lv_aload_n hx hb d_CL_putNumber_28 rfl (lv_at hl 0 rfl) ?_
  refine lv_iload_n hx hb d_CL_putNumber_29 rfl (lv_at hl 1 rfl) ?_
  refine lv_iconst (v := 3) hx hb d_CL_putNumber_30 (by decide) ?_
  refine lv_iadd hx hb d_CL_putNumber_31 ?_
  refine zz_i (v := nI ((k) + 3)) (nI_add (k) 3) ?_
  refine lv_iload_n hx hb d_CL_putNumber_32 rfl (lv_at hl 2 rfl) ?_
  refine lv_i2b hx hb d_CL_putNumber_33 rfl ?_
  refine lv_topi (fun x_13 _ => ?_)
  refine zz_bast hx hb hK hP hD hS 0 0 rfl rfl (vp_in_nI (by omega) (by omega)) hf_12 d_CL_putNumber_34 (fun f_14 hf_15 H locs hP hD hS => ?_)
  have hP : va_P (dC, dI) cl_all [(h0, .inl (eb, N, .inl f_14))] H := hP
  have hD : va_D A [(h0, .inl (eb, N, .inl f_14))] := hD
  have hP9 := hP.sub (ws' := [(h0, .inl (eb, N, .inl f_14))]) [0] rfl
  have hD9 := hD.sub (ws' := [(h0, .inl (eb, N, .inl f_14))]) [0] (by decide) rfl
  have hK9 := hK.sub (tys' := []) [] rfl
  exact W.vret hx hb hr (fun t9 ht9 hW9 => ⟨⟨(), rfl, trivial, ⟨f_14, hf_15, by rw [ht9]; exact hP9, va_K.moved hW9.alike hK9, hD9⟩⟩, hS.F ht9⟩) hS.2.2 d_CL_putNumber_35
set_option maxHeartbeats 4000000 in
set_option maxRecDepth 100000 in
/-- addNumber, with room -/
theorem c_Row_addNumber (l : Launch) (dC : Nat → ClassId) (dI : Nat → Nat → Nat) (z : zT) (sz : Nat) (h0 h1 : Nat) (eb : ClassId) (f : Nat → Int32) (k : Nat) (x : Int32) (hf_f : sb_Fit f) (hk : k + 4 ≤ 4096) : Met l y_Row_addNumber w_Row_addNumber ({ frames := 1, cells := 0, slots := 0, locals := 22 }) (va_Pc [.ref h0, .int x] (fun U => U.heap.size = sz ∧ va_P (dC, dI) cl_all [(h0, .inr (1, [.ref h1, .int (nI k)])), (h1, .inl (eb, 4096, .inl f))] U.heap ∧ va_K (dC, dI) cl_all [(eb, .byte)] U ∧ va_D (fun _ => True) [(h0, .inr (1, [.ref h1, .int (nI k)])), (h1, .inl (eb, 4096, .inl f))] ∧ zz z (va_A [(h0, .inr (1, [.ref h1, .int (nI k)])), (h1, .inl (eb, 4096, .inl f))] sz) U U.heap)) (va_Qv (fun _ : Unit => True) (fun _ t => ∃ (g : Nat → Int32), sb_Fit g ∧ va_P (dC, dI) cl_all [(h0, .inr (1, [.ref h1, .int (nI (k + 4))])), (h1, .inl (eb, 4096, .inl g))] t.heap ∧ va_K (dC, dI) cl_all [] t ∧ va_D (va_A [(h0, .inr (1, [.ref h1, .int (nI k)])), (h1, .inl (eb, 4096, .inl f))] sz) [(h0, .inr (1, [.ref h1, .int (nI (k + 4))])), (h1, .inl (eb, 4096, .inl g))]) (va_A [(h0, .inr (1, [.ref h1, .int (nI k)])), (h1, .inl (eb, 4096, .inl f))] sz)) 0 0 (va_A [(h0, .inr (1, [.ref h1, .int (nI k)])), (h1, .inl (eb, 4096, .inl f))] sz) := by
  refine Met.ofW (cc := b_Row_addNumber) (maxL := 2) (ret := none) (by decide) rfl ?_
  intro p e s m args below meth c s₁ B hml hv
  obtain ⟨rfl, hsz, hP, hK, hD0, hZ⟩ := hv
  have hx := B.exec
  have hb := B.bytes
  have hr := B.returns
  have hT : ∀ w ∈ lw_all, w.before _ s = true := fun w h => atoms_spec (ws := w_Row_addNumber) B.pre w (List.mem_cons_of_mem _ h)
  have hown : s.vm.findClass R_Row = some m.cls := findClass_of_methodNamed B.named
  have hlocks := B.notSynchronized
  subst hsz
  have hD := hD0.self (sz := s.heap.size)
  generalize hAe : va_A [(h0, .inr (1, [.ref h1, .int (nI k)])), (h1, .inl (eb, 4096, .inl f))] s.heap.size = A at hD hZ ⊢
  have hA : ∀ q : Nat, s.heap.size ≤ q → A q := fun q h => by rw [← hAe]; exact Or.inr h
  have hS : va_S A s.heap s.heap [] := va_S.rf
  have hl := lv_entry ([.ref h0, .int x]) (n := 2) (Nat.le_of_ble_eq_true rfl)
  rw [lg_entry_eq]
  generalize (lg_sl ([.ref h0, .int x]) ++ List.replicate (2 - (lg_sl ([.ref h0, .int x])).length) Slot.unset).toArray = ls at hl ⊢
  have hl : lv_has ls 2 [(0, .ref h0), (1, .int x)] := hl
  refine lv_aload_n hx hb d_Row_addNumber_0 rfl (lv_at hl 0 rfl) ?_
  refine va_get (D := (dC, dI)) (ci := 1) (v := .int (nI k)) (C := R_Row) (T := F_Row) (N := 2) hx hb hT i_Row hown hK hP 0 rfl rfl 1 (by decide) (hT _ k_98) (fun _ h9 => h9) rfl d_Row_addNumber_1 ?_
  refine lv_sipush (v := 4092) hx hb d_Row_addNumber_4 (by decide) ?_
  refine lv_icmp_gt (tgt := 32) hx hb d_Row_addNumber_7 (by decide) (fun h => absurd h (fun h9 => absurd ((nI_ltI (a := 4092) (b := (k)) (by omega) (by omega)).mp h9) (by omega))) (fun _ => ?_)
  refine lv_aload_n hx hb d_Row_addNumber_10 rfl (lv_at hl 0 rfl) ?_
  refine va_get (D := (dC, dI)) (ci := 1) (v := .ref h1) (C := R_Row) (T := F_Row) (N := 2) hx hb hT i_Row hown hK hP 0 rfl rfl 0 (by decide) (hT _ k_16) (fun _ h9 => h9) rfl d_Row_addNumber_11 ?_
  refine lv_aload_n hx hb d_Row_addNumber_14 rfl (lv_at hl 0 rfl) ?_
  refine va_get (D := (dC, dI)) (ci := 1) (v := .int (nI k)) (C := R_Row) (T := F_Row) (N := 2) hx hb hT i_Row hown hK hP 0 rfl rfl 1 (by decide) (hT _ k_98) (fun _ h9 => h9) rfl d_Row_addNumber_15 ?_
  refine lv_iload_n hx hb d_Row_addNumber_18 rfl (lv_at hl 1 rfl) ?_
  have hPc := hP.sub (ws' := [(h1, .inl (eb, 4096, .inl f))]) [1] rfl
  have hDc := hD.sub (ws' := [(h1, .inl (eb, 4096, .inl f))]) [1] (by decide) rfl
  have hKc := hK.sub (tys' := [(eb, .byte)]) [0] rfl
  have hFc := va_free (wc := [(h1, .inl (eb, 4096, .inl f))]) hD hS hA [1] rfl
  refine va_callv (va_runSN (As := [.ref h1, .int (nI k), .int x]) (rest := []) ⟨hx, hb, hml, hown, hT⟩ (c_CL_putNumber l dC dI z s.heap.size h1 eb 4096 f (k) x hf_f (by omega) (by omega)) ⟨va_cnB (host := "ChainLedger") 3 hT g_CL_putNumber rfl rfl rfl (zn_k_99 (zz_N hZ)) (hT _ k_100) (by decide +kernel) ⟨Nat.le_of_ble_eq_true rfl, Nat.le_of_ble_eq_true rfl⟩, (hT _ k_101), trivial⟩ (zz_pre hPc hKc hDc hZ hS hFc) rfl rfl hl.1 rfl (lv_room (Nat.le_of_ble_eq_true rfl)) d_Row_addNumber_19 ⟨Nat.le_of_ble_eq_true rfl, Nat.le_of_ble_eq_true rfl⟩) hS (fun q _ h => hFc q h) hFc (fun u9 t9 H1 locs ht9 hvm9 hw9 hB9 hz19 hk19 hS => ?_)
  obtain ⟨f_2, hf_3, hP1, hK1, hD1⟩ := hB9
  rw [ht9] at hP1
  obtain ⟨hP, hD⟩ := va_join (wr := [(h0, .inr (1, [.ref h1, .int (nI k)]))]) (w1 := [(h1, .inl (eb, 4096, .inl f_2))]) hP hD [1] [0] rfl rfl (by decide) (by decide) hk19 hFc hP1 hD1
  generalize H1 = H at hP hS ⊢
  have hP : va_P (dC, dI) cl_all [(h0, .inr (1, [.ref h1, .int (nI k)])), (h1, .inl (eb, 4096, .inl f_2))] H := hP
  have hD : va_D A [(h0, .inr (1, [.ref h1, .int (nI k)])), (h1, .inl (eb, 4096, .inl f_2))] := hD
  refine lv_aload_n hx hb d_Row_addNumber_22 rfl (lv_at hl 0 rfl) ?_
  refine lv_dup hx hb d_Row_addNumber_23 rfl ?_
  refine va_get (D := (dC, dI)) (ci := 1) (v := .int (nI k)) (C := R_Row) (T := F_Row) (N := 2) hx hb hT i_Row hown hK hP 0 rfl rfl 1 (by decide) (hT _ k_98) (fun _ h9 => h9) rfl d_Row_addNumber_24 ?_
  refine lv_iconst (v := 4) hx hb d_Row_addNumber_27 (by decide) ?_
  refine lv_iadd hx hb d_Row_addNumber_28 ?_
  refine zz_i (v := nI ((k) + 4)) (nI_add (k) 4) ?_
  refine va_put (D := (dC, dI)) (ci := 1) (v := .int (nI ((k) + 4))) (ty := .int) (C := R_Row) (T := F_Row) (N := 2) hx hb hT i_Row t_Row t_Row_ok n_Row hown hK hP hD hS 0 rfl rfl 1 (by decide) (hT _ k_98) (fun _ h9 => h9) rfl (by decide +kernel) rfl rfl (Nat.le_of_ble_eq_true rfl) d_Row_addNumber_29 (fun H locs hP hD hS => ?_)
  have hP : va_P (dC, dI) cl_all [(h0, .inr (1, [.ref h1, .int (nI ((k) + 4))])), (h1, .inl (eb, 4096, .inl f_2))] H := hP
  have hD : va_D A [(h0, .inr (1, [.ref h1, .int (nI ((k) + 4))])), (h1, .inl (eb, 4096, .inl f_2))] := hD
  have hP9 := hP.sub (ws' := [(h0, .inr (1, [.ref h1, .int (nI (k + 4))])), (h1, .inl (eb, 4096, .inl f_2))]) [0, 1] rfl
  have hD9 := hD.sub (ws' := [(h0, .inr (1, [.ref h1, .int (nI (k + 4))])), (h1, .inl (eb, 4096, .inl f_2))]) [0, 1] (by decide) rfl
  have hK9 := hK.sub (tys' := []) [] rfl
  exact W.vret hx hb hr (fun t9 ht9 hW9 => ⟨⟨(), rfl, trivial, ⟨f_2, hf_3, by rw [ht9]; exact hP9, va_K.moved hW9.alike hK9, hD9⟩⟩, hS.F ht9⟩) hS.2.2 d_Row_addNumber_32
set_option maxHeartbeats 4000000 in
set_option maxRecDepth 100000 in
/-- addByte, with room -/
theorem c_Row_addByte (l : Launch) (dC : Nat → ClassId) (dI : Nat → Nat → Nat) (z : zT) (sz : Nat) (h0 h1 : Nat) (eb : ClassId) (f : Nat → Int32) (k : Nat) (x : Int32) (hf_f : sb_Fit f) (hk : k + 1 ≤ 4096) : Met l y_Row_addByte w_Row_addByte ({ frames := 0, cells := 0, slots := 0, locals := 0 }) (va_Pc [.ref h0, .int x] (fun U => U.heap.size = sz ∧ va_P (dC, dI) cl_all [(h0, .inr (1, [.ref h1, .int (nI k)])), (h1, .inl (eb, 4096, .inl f))] U.heap ∧ va_K (dC, dI) cl_all [(eb, .byte)] U ∧ va_D (fun _ => True) [(h0, .inr (1, [.ref h1, .int (nI k)])), (h1, .inl (eb, 4096, .inl f))] ∧ zz z (va_A [(h0, .inr (1, [.ref h1, .int (nI k)])), (h1, .inl (eb, 4096, .inl f))] sz) U U.heap)) (va_Qv (fun _ : Unit => True) (fun _ t => ∃ (g : Nat → Int32), sb_Fit g ∧ va_P (dC, dI) cl_all [(h0, .inr (1, [.ref h1, .int (nI (k + 1))])), (h1, .inl (eb, 4096, .inl g))] t.heap ∧ va_K (dC, dI) cl_all [] t ∧ va_D (va_A [(h0, .inr (1, [.ref h1, .int (nI k)])), (h1, .inl (eb, 4096, .inl f))] sz) [(h0, .inr (1, [.ref h1, .int (nI (k + 1))])), (h1, .inl (eb, 4096, .inl g))]) (va_A [(h0, .inr (1, [.ref h1, .int (nI k)])), (h1, .inl (eb, 4096, .inl f))] sz)) 0 0 (va_A [(h0, .inr (1, [.ref h1, .int (nI k)])), (h1, .inl (eb, 4096, .inl f))] sz) := by
  refine Met.ofW (cc := b_Row_addByte) (maxL := 2) (ret := none) (by decide) rfl ?_
  intro p e s m args below meth c s₁ B hml hv
  obtain ⟨rfl, hsz, hP, hK, hD0, hZ⟩ := hv
  have hx := B.exec
  have hb := B.bytes
  have hr := B.returns
  have hT : ∀ w ∈ lw_all, w.before _ s = true := fun w h => atoms_spec (ws := w_Row_addByte) B.pre w (List.mem_cons_of_mem _ h)
  have hown : s.vm.findClass R_Row = some m.cls := findClass_of_methodNamed B.named
  have hlocks := B.notSynchronized
  subst hsz
  have hD := hD0.self (sz := s.heap.size)
  generalize hAe : va_A [(h0, .inr (1, [.ref h1, .int (nI k)])), (h1, .inl (eb, 4096, .inl f))] s.heap.size = A at hD hZ ⊢
  have hA : ∀ q : Nat, s.heap.size ≤ q → A q := fun q h => by rw [← hAe]; exact Or.inr h
  have hS : va_S A s.heap s.heap [] := va_S.rf
  have hl := lv_entry ([.ref h0, .int x]) (n := 2) (Nat.le_of_ble_eq_true rfl)
  rw [lg_entry_eq]
  generalize (lg_sl ([.ref h0, .int x]) ++ List.replicate (2 - (lg_sl ([.ref h0, .int x])).length) Slot.unset).toArray = ls at hl ⊢
  have hl : lv_has ls 2 [(0, .ref h0), (1, .int x)] := hl
  refine lv_aload_n hx hb d_Row_addByte_0 rfl (lv_at hl 0 rfl) ?_
  refine va_get (D := (dC, dI)) (ci := 1) (v := .int (nI k)) (C := R_Row) (T := F_Row) (N := 2) hx hb hT i_Row hown hK hP 0 rfl rfl 1 (by decide) (hT _ k_98) (fun _ h9 => h9) rfl d_Row_addByte_1 ?_
  refine lv_sipush (v := 4096) hx hb d_Row_addByte_4 (by decide) ?_
  refine lv_icmp_ge (tgt := 31) hx hb d_Row_addByte_7 (by decide) (fun h => absurd h (fun h9 => absurd ((nI_leI (a := 4096) (b := (k)) (by omega) (by omega)).mp h9) (by omega))) (fun _ => ?_)
  refine lv_aload_n hx hb d_Row_addByte_10 rfl (lv_at hl 0 rfl) ?_
  refine va_get (D := (dC, dI)) (ci := 1) (v := .ref h1) (C := R_Row) (T := F_Row) (N := 2) hx hb hT i_Row hown hK hP 0 rfl rfl 0 (by decide) (hT _ k_16) (fun _ h9 => h9) rfl d_Row_addByte_11 ?_
  refine lv_aload_n hx hb d_Row_addByte_14 rfl (lv_at hl 0 rfl) ?_
  refine va_get (D := (dC, dI)) (ci := 1) (v := .int (nI k)) (C := R_Row) (T := F_Row) (N := 2) hx hb hT i_Row hown hK hP 0 rfl rfl 1 (by decide) (hT _ k_98) (fun _ h9 => h9) rfl d_Row_addByte_15 ?_
  refine lv_iload_n hx hb d_Row_addByte_18 rfl (lv_at hl 1 rfl) ?_
  refine lv_i2b hx hb d_Row_addByte_19 rfl ?_
  refine lv_topi (fun x_1 _ => ?_)
  refine zz_bast hx hb hK hP hD hS 1 0 rfl rfl (vp_in_nI (by omega) (by omega)) hf_f d_Row_addByte_20 (fun f_2 hf_3 H locs hP hD hS => ?_)
  have hP : va_P (dC, dI) cl_all [(h0, .inr (1, [.ref h1, .int (nI k)])), (h1, .inl (eb, 4096, .inl f_2))] H := hP
  have hD : va_D A [(h0, .inr (1, [.ref h1, .int (nI k)])), (h1, .inl (eb, 4096, .inl f_2))] := hD
  refine lv_aload_n hx hb d_Row_addByte_21 rfl (lv_at hl 0 rfl) ?_
  refine lv_dup hx hb d_Row_addByte_22 rfl ?_
  refine va_get (D := (dC, dI)) (ci := 1) (v := .int (nI k)) (C := R_Row) (T := F_Row) (N := 2) hx hb hT i_Row hown hK hP 0 rfl rfl 1 (by decide) (hT _ k_98) (fun _ h9 => h9) rfl d_Row_addByte_23 ?_
  refine lv_iconst (v := 1) hx hb d_Row_addByte_26 (by decide) ?_
  refine lv_iadd hx hb d_Row_addByte_27 ?_
  refine zz_i (v := nI ((k) + 1)) (nI_add (k) 1) ?_
  refine va_put (D := (dC, dI)) (ci := 1) (v := .int (nI ((k) + 1))) (ty := .int) (C := R_Row) (T := F_Row) (N := 2) hx hb hT i_Row t_Row t_Row_ok n_Row hown hK hP hD hS 0 rfl rfl 1 (by decide) (hT _ k_98) (fun _ h9 => h9) rfl (by decide +kernel) rfl rfl (Nat.le_of_ble_eq_true rfl) d_Row_addByte_28 (fun H locs hP hD hS => ?_)
  have hP : va_P (dC, dI) cl_all [(h0, .inr (1, [.ref h1, .int (nI ((k) + 1))])), (h1, .inl (eb, 4096, .inl f_2))] H := hP
  have hD : va_D A [(h0, .inr (1, [.ref h1, .int (nI ((k) + 1))])), (h1, .inl (eb, 4096, .inl f_2))] := hD
  have hP9 := hP.sub (ws' := [(h0, .inr (1, [.ref h1, .int (nI (k + 1))])), (h1, .inl (eb, 4096, .inl f_2))]) [0, 1] rfl
  have hD9 := hD.sub (ws' := [(h0, .inr (1, [.ref h1, .int (nI (k + 1))])), (h1, .inl (eb, 4096, .inl f_2))]) [0, 1] (by decide) rfl
  have hK9 := hK.sub (tys' := []) [] rfl
  exact W.vret hx hb hr (fun t9 ht9 hW9 => ⟨⟨(), rfl, trivial, ⟨f_2, hf_3, by rw [ht9]; exact hP9, va_K.moved hW9.alike hK9, hD9⟩⟩, hS.F ht9⟩) hS.2.2 d_Row_addByte_31
set_option maxHeartbeats 4000000 in
set_option maxRecDepth 100000 in
/-- addBytes, with room -/
theorem c_Row_addBytes (l : Launch) (dC : Nat → ClassId) (dI : Nat → Nat → Nat) (z : zT) (sz : Nat) (h0 h1 h2 : Nat) (eb e2 : ClassId) (N : Nat) (f f2 : Nat → Int32) (k a n : Nat) (hf_f : sb_Fit f) (hf_f2 : sb_Fit f2) (hk : k + n ≤ 4096) (ha : a + n ≤ N) (hN : N < 2 ^ 31) : Met l y_Row_addBytes w_Row_addBytes ({ frames := 1, cells := 0, slots := 0, locals := 18 }) (va_Pc [.ref h0, .ref h2, .int (nI a), .int (nI n)] (fun U => U.heap.size = sz ∧ va_P (dC, dI) cl_all [(h0, .inr (1, [.ref h1, .int (nI k)])), (h1, .inl (eb, 4096, .inl f)), (h2, .inl (e2, N, .inl f2))] U.heap ∧ va_K (dC, dI) cl_all [(eb, .byte), (e2, .byte)] U ∧ va_D (fun _ => True) [(h0, .inr (1, [.ref h1, .int (nI k)])), (h1, .inl (eb, 4096, .inl f)), (h2, .inl (e2, N, .inl f2))] ∧ zz z (va_A [(h0, .inr (1, [.ref h1, .int (nI k)])), (h1, .inl (eb, 4096, .inl f)), (h2, .inl (e2, N, .inl f2))] sz) U U.heap)) (va_Qv (fun _ : Unit => True) (fun _ t => ∃ (g : Nat → Int32), sb_Fit g ∧ va_P (dC, dI) cl_all [(h0, .inr (1, [.ref h1, .int (nI (k + n))])), (h1, .inl (eb, 4096, .inl g)), (h2, .inl (e2, N, .inl f2))] t.heap ∧ va_K (dC, dI) cl_all [] t ∧ va_D (va_A [(h0, .inr (1, [.ref h1, .int (nI k)])), (h1, .inl (eb, 4096, .inl f)), (h2, .inl (e2, N, .inl f2))] sz) [(h0, .inr (1, [.ref h1, .int (nI (k + n))])), (h1, .inl (eb, 4096, .inl g)), (h2, .inl (e2, N, .inl f2))]) (va_A [(h0, .inr (1, [.ref h1, .int (nI k)])), (h1, .inl (eb, 4096, .inl f)), (h2, .inl (e2, N, .inl f2))] sz)) 0 0 (va_A [(h0, .inr (1, [.ref h1, .int (nI k)])), (h1, .inl (eb, 4096, .inl f)), (h2, .inl (e2, N, .inl f2))] sz) := by
  refine Met.ofW (cc := b_Row_addBytes) (maxL := 4) (ret := none) (by decide) rfl ?_
  intro p e s m args below meth c s₁ B hml hv
  obtain ⟨rfl, hsz, hP, hK, hD0, hZ⟩ := hv
  have hx := B.exec
  have hb := B.bytes
  have hr := B.returns
  have hT : ∀ w ∈ lw_all, w.before _ s = true := fun w h => atoms_spec (ws := w_Row_addBytes) B.pre w (List.mem_cons_of_mem _ h)
  have hown : s.vm.findClass R_Row = some m.cls := findClass_of_methodNamed B.named
  have hlocks := B.notSynchronized
  subst hsz
  have hD := hD0.self (sz := s.heap.size)
  generalize hAe : va_A [(h0, .inr (1, [.ref h1, .int (nI k)])), (h1, .inl (eb, 4096, .inl f)), (h2, .inl (e2, N, .inl f2))] s.heap.size = A at hD hZ ⊢
  have hA : ∀ q : Nat, s.heap.size ≤ q → A q := fun q h => by rw [← hAe]; exact Or.inr h
  have hS : va_S A s.heap s.heap [] := va_S.rf
  have hl := lv_entry ([.ref h0, .ref h2, .int (nI a), .int (nI n)]) (n := 4) (Nat.le_of_ble_eq_true rfl)
  rw [lg_entry_eq]
  generalize (lg_sl ([.ref h0, .ref h2, .int (nI a), .int (nI n)]) ++ List.replicate (4 - (lg_sl ([.ref h0, .ref h2, .int (nI a), .int (nI n)])).length) Slot.unset).toArray = ls at hl ⊢
  have hl : lv_has ls 4 [(0, .ref h0), (1, .ref h2), (2, .int (nI a)), (3, .int (nI n))] := hl
  refine lv_iload_n hx hb d_Row_addBytes_0 rfl (lv_at hl 3 rfl) ?_
  refine lv_sipush (v := 4096) hx hb d_Row_addBytes_1 (by decide) ?_
  refine lv_aload_n hx hb d_Row_addBytes_4 rfl (lv_at hl 0 rfl) ?_
  refine va_get (D := (dC, dI)) (ci := 1) (v := .int (nI k)) (C := R_Row) (T := F_Row) (N := 2) hx hb hT i_Row hown hK hP 0 rfl rfl 1 (by decide) (hT _ k_98) (fun _ h9 => h9) rfl d_Row_addBytes_5 ?_
  refine lv_isub hx hb d_Row_addBytes_8 ?_
  refine zz_i (v := nI (4096 - (k))) (pk_sub (a := 4096) (b := (k)) (by omega)) ?_
  refine lv_icmp_gt (tgt := 36) hx hb d_Row_addBytes_9 (by decide) (fun h => absurd h (fun h9 => absurd ((nI_ltI (a := (4096 - (k))) (b := (n)) (by omega) (by omega)).mp h9) (by omega))) (fun _ => ?_)
  refine lv_aload_n hx hb d_Row_addBytes_12 rfl (lv_at hl 1 rfl) ?_
  refine lv_iload_n hx hb d_Row_addBytes_13 rfl (lv_at hl 2 rfl) ?_
  refine lv_aload_n hx hb d_Row_addBytes_14 rfl (lv_at hl 0 rfl) ?_
  refine va_get (D := (dC, dI)) (ci := 1) (v := .ref h1) (C := R_Row) (T := F_Row) (N := 2) hx hb hT i_Row hown hK hP 0 rfl rfl 0 (by decide) (hT _ k_16) (fun _ h9 => h9) rfl d_Row_addBytes_15 ?_
  refine lv_aload_n hx hb d_Row_addBytes_18 rfl (lv_at hl 0 rfl) ?_
  refine va_get (D := (dC, dI)) (ci := 1) (v := .int (nI k)) (C := R_Row) (T := F_Row) (N := 2) hx hb hT i_Row hown hK hP 0 rfl rfl 1 (by decide) (hT _ k_98) (fun _ h9 => h9) rfl d_Row_addBytes_19 ?_
  refine lv_iload_n hx hb d_Row_addBytes_22 rfl (lv_at hl 3 rfl) ?_
  refine zz_copyb hx hb (by rw [hml]; exact hl.1.symm) hown (hT _ k_102) (hT _ k_103) (hT _ k_104) (hT _ k_105) hK hP hD hS 2 1 1 0 rfl rfl rfl rfl (nI_pos (by omega)) (nI_pos (by omega)) (nI_pos (by omega)) (by rw [nI_clamp (n := (a)) (by omega), nI_clamp (n := (n)) (by omega)]; omega) (by rw [nI_clamp (n := (k)) (by omega), nI_clamp (n := (n)) (by omega)]; omega) hf_f2 hf_f (Nat.le_of_ble_eq_true rfl) (Nat.le_of_ble_eq_true rfl) d_Row_addBytes_23 (fun f_1 hf_2 H locs hP hD hS => ?_)
  have hP : va_P (dC, dI) cl_all [(h0, .inr (1, [.ref h1, .int (nI k)])), (h1, .inl (eb, 4096, .inl f_1)), (h2, .inl (e2, N, .inl f2))] H := hP
  have hD : va_D A [(h0, .inr (1, [.ref h1, .int (nI k)])), (h1, .inl (eb, 4096, .inl f_1)), (h2, .inl (e2, N, .inl f2))] := hD
  refine lv_aload_n hx hb d_Row_addBytes_26 rfl (lv_at hl 0 rfl) ?_
  refine lv_dup hx hb d_Row_addBytes_27 rfl ?_
  refine va_get (D := (dC, dI)) (ci := 1) (v := .int (nI k)) (C := R_Row) (T := F_Row) (N := 2) hx hb hT i_Row hown hK hP 0 rfl rfl 1 (by decide) (hT _ k_98) (fun _ h9 => h9) rfl d_Row_addBytes_28 ?_
  refine lv_iload_n hx hb d_Row_addBytes_31 rfl (lv_at hl 3 rfl) ?_
  refine lv_iadd hx hb d_Row_addBytes_32 ?_
  refine zz_i (v := nI ((k) + (n))) (nI_add (k) (n)) ?_
  refine va_put (D := (dC, dI)) (ci := 1) (v := .int (nI ((k) + (n)))) (ty := .int) (C := R_Row) (T := F_Row) (N := 2) hx hb hT i_Row t_Row t_Row_ok n_Row hown hK hP hD hS 0 rfl rfl 1 (by decide) (hT _ k_98) (fun _ h9 => h9) rfl (by decide +kernel) rfl rfl (Nat.le_of_ble_eq_true rfl) d_Row_addBytes_33 (fun H locs hP hD hS => ?_)
  have hP : va_P (dC, dI) cl_all [(h0, .inr (1, [.ref h1, .int (nI ((k) + (n)))])), (h1, .inl (eb, 4096, .inl f_1)), (h2, .inl (e2, N, .inl f2))] H := hP
  have hD : va_D A [(h0, .inr (1, [.ref h1, .int (nI ((k) + (n)))])), (h1, .inl (eb, 4096, .inl f_1)), (h2, .inl (e2, N, .inl f2))] := hD
  have hP9 := hP.sub (ws' := [(h0, .inr (1, [.ref h1, .int (nI (k + n))])), (h1, .inl (eb, 4096, .inl f_1)), (h2, .inl (e2, N, .inl f2))]) [0, 1, 2] rfl
  have hD9 := hD.sub (ws' := [(h0, .inr (1, [.ref h1, .int (nI (k + n))])), (h1, .inl (eb, 4096, .inl f_1)), (h2, .inl (e2, N, .inl f2))]) [0, 1, 2] (by decide) rfl
  have hK9 := hK.sub (tys' := []) [] rfl
  exact W.vret hx hb hr (fun t9 ht9 hW9 => ⟨⟨(), rfl, trivial, ⟨f_1, hf_2, by rw [ht9]; exact hP9, va_K.moved hW9.alike hK9, hD9⟩⟩, hS.F ht9⟩) hS.2.2 d_Row_addBytes_36
set_option maxHeartbeats 4000000 in
set_option maxRecDepth 100000 in
/-- addKeyOutput, with room -/
theorem c_Row_addKeyOutput (l : Launch) (dC : Nat → ClassId) (dI : Nat → Nat → Nat) (z : zT) (sz : Nat) (h0 h1 : Nat) (eb : ClassId) (f : Nat → Int32) (k : Nat) (x y : Int32) (hf_f : sb_Fit f) (hk : k + 11 ≤ 4096) : Met l y_Row_addKeyOutput w_Row_addKeyOutput ({ frames := 2, cells := 0, slots := 0, locals := 43 }) (va_Pc [.ref h0, .int x, .int y] (fun U => U.heap.size = sz ∧ va_P (dC, dI) cl_all [(h0, .inr (1, [.ref h1, .int (nI k)])), (h1, .inl (eb, 4096, .inl f))] U.heap ∧ va_K (dC, dI) cl_all [(eb, .byte)] U ∧ va_D (fun _ => True) [(h0, .inr (1, [.ref h1, .int (nI k)])), (h1, .inl (eb, 4096, .inl f))] ∧ zz z (va_A [(h0, .inr (1, [.ref h1, .int (nI k)])), (h1, .inl (eb, 4096, .inl f))] sz) U U.heap)) (va_Qv (fun _ : Unit => True) (fun _ t => ∃ (g : Nat → Int32), sb_Fit g ∧ va_P (dC, dI) cl_all [(h0, .inr (1, [.ref h1, .int (nI (k + 11))])), (h1, .inl (eb, 4096, .inl g))] t.heap ∧ va_K (dC, dI) cl_all [] t ∧ va_D (va_A [(h0, .inr (1, [.ref h1, .int (nI k)])), (h1, .inl (eb, 4096, .inl f))] sz) [(h0, .inr (1, [.ref h1, .int (nI (k + 11))])), (h1, .inl (eb, 4096, .inl g))]) (va_A [(h0, .inr (1, [.ref h1, .int (nI k)])), (h1, .inl (eb, 4096, .inl f))] sz)) 0 0 (va_A [(h0, .inr (1, [.ref h1, .int (nI k)])), (h1, .inl (eb, 4096, .inl f))] sz) := by
  refine Met.ofW (cc := b_Row_addKeyOutput) (maxL := 3) (ret := none) (by decide) rfl ?_
  intro p e s m args below meth c s₁ B hml hv
  obtain ⟨rfl, hsz, hP, hK, hD0, hZ⟩ := hv
  have hx := B.exec
  have hb := B.bytes
  have hr := B.returns
  have hT : ∀ w ∈ lw_all, w.before _ s = true := fun w h => atoms_spec (ws := w_Row_addKeyOutput) B.pre w (List.mem_cons_of_mem _ h)
  have hown : s.vm.findClass R_Row = some m.cls := findClass_of_methodNamed B.named
  have hlocks := B.notSynchronized
  subst hsz
  have hD := hD0.self (sz := s.heap.size)
  generalize hAe : va_A [(h0, .inr (1, [.ref h1, .int (nI k)])), (h1, .inl (eb, 4096, .inl f))] s.heap.size = A at hD hZ ⊢
  have hA : ∀ q : Nat, s.heap.size ≤ q → A q := fun q h => by rw [← hAe]; exact Or.inr h
  have hS : va_S A s.heap s.heap [] := va_S.rf
  have hl := lv_entry ([.ref h0, .int x, .int y]) (n := 3) (Nat.le_of_ble_eq_true rfl)
  rw [lg_entry_eq]
  generalize (lg_sl ([.ref h0, .int x, .int y]) ++ List.replicate (3 - (lg_sl ([.ref h0, .int x, .int y])).length) Slot.unset).toArray = ls at hl ⊢
  have hl : lv_has ls 3 [(0, .ref h0), (1, .int x), (2, .int y)] := hl
  refine lv_aload_n hx hb d_Row_addKeyOutput_0 rfl (lv_at hl 0 rfl) ?_
  refine lv_iload_n hx hb d_Row_addKeyOutput_1 rfl (lv_at hl 1 rfl) ?_
  have hPc := hP.sub (ws' := [(h0, .inr (1, [.ref h1, .int (nI k)])), (h1, .inl (eb, 4096, .inl f))]) [0, 1] rfl
  have hDc := hD.sub (ws' := [(h0, .inr (1, [.ref h1, .int (nI k)])), (h1, .inl (eb, 4096, .inl f))]) [0, 1] (by decide) rfl
  have hKc := hK.sub (tys' := [(eb, .byte)]) [0] rfl
  have hFc := va_free (wc := [(h0, .inr (1, [.ref h1, .int (nI k)])), (h1, .inl (eb, 4096, .inl f))]) hD hS hA [0, 1] rfl
  refine va_callv (va_runV (C := R_Row) (As := [.int x]) (rest := []) ⟨hx, hb, hml, hown, hT⟩ (c_Row_addNumber l dC dI z s.heap.size h0 h1 eb f (k) x hf_f (by omega)) ⟨callB_of 1 hT g_Row_addNumber rfl rfl rfl (hT _ k_55) (hT _ k_106) (by decide +kernel) ⟨Nat.le_of_ble_eq_true rfl, Nat.le_of_ble_eq_true rfl⟩, (hT _ k_107), (hT _ k_108)⟩ (zz_preV hPc hKc hDc hZ hS hFc hK hP (ci := 1) (q0 := 0) (q := (R_Row, F_Row, 2)) rfl rfl) rfl rfl hl.1 rfl (lv_room (Nat.le_of_ble_eq_true rfl)) d_Row_addKeyOutput_2 ⟨Nat.le_of_ble_eq_true rfl, Nat.le_of_ble_eq_true rfl⟩) hS (fun q _ h => hFc q h) hFc (fun u9 t9 H1 locs ht9 hvm9 hw9 hB9 hz19 hk19 hS => ?_)
  obtain ⟨f_2, hf_3, hP1, hK1, hD1⟩ := hB9
  rw [ht9] at hP1
  obtain ⟨hP, hD⟩ := va_join (wr := []) (w1 := [(h0, .inr (1, [.ref h1, .int (nI ((k) + 4))])), (h1, .inl (eb, 4096, .inl f_2))]) hP hD [0, 1] [] rfl rfl (by decide) (by decide) hk19 hFc hP1 hD1
  generalize H1 = H at hP hS ⊢
  have hP : va_P (dC, dI) cl_all [(h0, .inr (1, [.ref h1, .int (nI ((k) + 4))])), (h1, .inl (eb, 4096, .inl f_2))] H := hP
  have hD : va_D A [(h0, .inr (1, [.ref h1, .int (nI ((k) + 4))])), (h1, .inl (eb, 4096, .inl f_2))] := hD
  refine lv_aload_n hx hb d_Row_addKeyOutput_5 rfl (lv_at hl 0 rfl) ?_
  refine lv_bipush (v := 6) hx hb d_Row_addKeyOutput_6 (by decide) ?_
  have hPc := hP.sub (ws' := [(h0, .inr (1, [.ref h1, .int (nI ((k) + 4))])), (h1, .inl (eb, 4096, .inl f_2))]) [0, 1] rfl
  have hDc := hD.sub (ws' := [(h0, .inr (1, [.ref h1, .int (nI ((k) + 4))])), (h1, .inl (eb, 4096, .inl f_2))]) [0, 1] (by decide) rfl
  have hKc := hK.sub (tys' := [(eb, .byte)]) [0] rfl
  have hFc := va_free (wc := [(h0, .inr (1, [.ref h1, .int (nI ((k) + 4))])), (h1, .inl (eb, 4096, .inl f_2))]) hD hS hA [0, 1] rfl
  refine va_callv (va_runV (C := R_Row) (As := [.int 6]) (rest := []) ⟨hx, hb, hml, hown, hT⟩ (c_Row_addByte l dC dI z H.size h0 h1 eb f_2 ((k) + 4) 6 hf_3 (by omega)) ⟨callB_of 1 hT g_Row_addByte rfl rfl rfl (hT _ k_55) (hT _ k_109) (by decide +kernel) ⟨Nat.le_of_ble_eq_true rfl, Nat.le_of_ble_eq_true rfl⟩, (hT _ k_110), (hT _ k_111)⟩ (zz_preV hPc hKc hDc hZ hS hFc hK hP (ci := 1) (q0 := 0) (q := (R_Row, F_Row, 2)) rfl rfl) rfl rfl hl.1 rfl (lv_room (Nat.le_of_ble_eq_true rfl)) d_Row_addKeyOutput_8 ⟨Nat.le_of_ble_eq_true rfl, Nat.le_of_ble_eq_true rfl⟩) hS (fun q _ h => hFc q h) hFc (fun u9 t9 H1 locs ht9 hvm9 hw9 hB9 hz19 hk19 hS => ?_)
  obtain ⟨f_5, hf_6, hP1, hK1, hD1⟩ := hB9
  rw [ht9] at hP1
  obtain ⟨hP, hD⟩ := va_join (wr := []) (w1 := [(h0, .inr (1, [.ref h1, .int (nI (((k) + 4) + 1))])), (h1, .inl (eb, 4096, .inl f_5))]) hP hD [0, 1] [] rfl rfl (by decide) (by decide) hk19 hFc hP1 hD1
  generalize H1 = H at hP hS ⊢
  have hP : va_P (dC, dI) cl_all [(h0, .inr (1, [.ref h1, .int (nI (((k) + 4) + 1))])), (h1, .inl (eb, 4096, .inl f_5))] H := hP
  have hD : va_D A [(h0, .inr (1, [.ref h1, .int (nI (((k) + 4) + 1))])), (h1, .inl (eb, 4096, .inl f_5))] := hD
  refine lv_aload_n hx hb d_Row_addKeyOutput_11 rfl (lv_at hl 0 rfl) ?_
  refine lv_iconst (v := 4) hx hb d_Row_addKeyOutput_12 (by decide) ?_
  have hPc := hP.sub (ws' := [(h0, .inr (1, [.ref h1, .int (nI (((k) + 4) + 1))])), (h1, .inl (eb, 4096, .inl f_5))]) [0, 1] rfl
  have hDc := hD.sub (ws' := [(h0, .inr (1, [.ref h1, .int (nI (((k) + 4) + 1))])), (h1, .inl (eb, 4096, .inl f_5))]) [0, 1] (by decide) rfl
  have hKc := hK.sub (tys' := [(eb, .byte)]) [0] rfl
  have hFc := va_free (wc := [(h0, .inr (1, [.ref h1, .int (nI (((k) + 4) + 1))])), (h1, .inl (eb, 4096, .inl f_5))]) hD hS hA [0, 1] rfl
  refine va_callv (va_runV (C := R_Row) (As := [.int 4]) (rest := []) ⟨hx, hb, hml, hown, hT⟩ (c_Row_addByte l dC dI z H.size h0 h1 eb f_5 (((k) + 4) + 1) 4 hf_6 (by omega)) ⟨callB_of 1 hT g_Row_addByte rfl rfl rfl (hT _ k_55) (hT _ k_109) (by decide +kernel) ⟨Nat.le_of_ble_eq_true rfl, Nat.le_of_ble_eq_true rfl⟩, (hT _ k_110), (hT _ k_111)⟩ (zz_preV hPc hKc hDc hZ hS hFc hK hP (ci := 1) (q0 := 0) (q := (R_Row, F_Row, 2)) rfl rfl) rfl rfl hl.1 rfl (lv_room (Nat.le_of_ble_eq_true rfl)) d_Row_addKeyOutput_13 ⟨Nat.le_of_ble_eq_true rfl, Nat.le_of_ble_eq_true rfl⟩) hS (fun q _ h => hFc q h) hFc (fun u9 t9 H1 locs ht9 hvm9 hw9 hB9 hz19 hk19 hS => ?_)
  obtain ⟨f_8, hf_9, hP1, hK1, hD1⟩ := hB9
  rw [ht9] at hP1
  obtain ⟨hP, hD⟩ := va_join (wr := []) (w1 := [(h0, .inr (1, [.ref h1, .int (nI ((((k) + 4) + 1) + 1))])), (h1, .inl (eb, 4096, .inl f_8))]) hP hD [0, 1] [] rfl rfl (by decide) (by decide) hk19 hFc hP1 hD1
  generalize H1 = H at hP hS ⊢
  have hP : va_P (dC, dI) cl_all [(h0, .inr (1, [.ref h1, .int (nI ((((k) + 4) + 1) + 1))])), (h1, .inl (eb, 4096, .inl f_8))] H := hP
  have hD : va_D A [(h0, .inr (1, [.ref h1, .int (nI ((((k) + 4) + 1) + 1))])), (h1, .inl (eb, 4096, .inl f_8))] := hD
  refine lv_aload_n hx hb d_Row_addKeyOutput_16 rfl (lv_at hl 0 rfl) ?_
  refine lv_iload_n hx hb d_Row_addKeyOutput_17 rfl (lv_at hl 2 rfl) ?_
  have hPc := hP.sub (ws' := [(h0, .inr (1, [.ref h1, .int (nI ((((k) + 4) + 1) + 1))])), (h1, .inl (eb, 4096, .inl f_8))]) [0, 1] rfl
  have hDc := hD.sub (ws' := [(h0, .inr (1, [.ref h1, .int (nI ((((k) + 4) + 1) + 1))])), (h1, .inl (eb, 4096, .inl f_8))]) [0, 1] (by decide) rfl
  have hKc := hK.sub (tys' := [(eb, .byte)]) [0] rfl
  have hFc := va_free (wc := [(h0, .inr (1, [.ref h1, .int (nI ((((k) + 4) + 1) + 1))])), (h1, .inl (eb, 4096, .inl f_8))]) hD hS hA [0, 1] rfl
  refine va_callv (va_runV (C := R_Row) (As := [.int y]) (rest := []) ⟨hx, hb, hml, hown, hT⟩ (c_Row_addNumber l dC dI z H.size h0 h1 eb f_8 ((((k) + 4) + 1) + 1) y hf_9 (by omega)) ⟨callB_of 1 hT g_Row_addNumber rfl rfl rfl (hT _ k_55) (hT _ k_106) (by decide +kernel) ⟨Nat.le_of_ble_eq_true rfl, Nat.le_of_ble_eq_true rfl⟩, (hT _ k_107), (hT _ k_108)⟩ (zz_preV hPc hKc hDc hZ hS hFc hK hP (ci := 1) (q0 := 0) (q := (R_Row, F_Row, 2)) rfl rfl) rfl rfl hl.1 rfl (lv_room (Nat.le_of_ble_eq_true rfl)) d_Row_addKeyOutput_18 ⟨Nat.le_of_ble_eq_true rfl, Nat.le_of_ble_eq_true rfl⟩) hS (fun q _ h => hFc q h) hFc (fun u9 t9 H1 locs ht9 hvm9 hw9 hB9 hz19 hk19 hS => ?_)
  obtain ⟨f_11, hf_12, hP1, hK1, hD1⟩ := hB9
  rw [ht9] at hP1
  obtain ⟨hP, hD⟩ := va_join (wr := []) (w1 := [(h0, .inr (1, [.ref h1, .int (nI (((((k) + 4) + 1) + 1) + 4))])), (h1, .inl (eb, 4096, .inl f_11))]) hP hD [0, 1] [] rfl rfl (by decide) (by decide) hk19 hFc hP1 hD1
  generalize H1 = H at hP hS ⊢
  have hP : va_P (dC, dI) cl_all [(h0, .inr (1, [.ref h1, .int (nI (((((k) + 4) + 1) + 1) + 4))])), (h1, .inl (eb, 4096, .inl f_11))] H := hP
  have hD : va_D A [(h0, .inr (1, [.ref h1, .int (nI (((((k) + 4) + 1) + 1) + 4))])), (h1, .inl (eb, 4096, .inl f_11))] := hD
  refine lv_aload_n hx hb d_Row_addKeyOutput_21 rfl (lv_at hl 0 rfl) ?_
  refine lv_bipush (v := 95) hx hb d_Row_addKeyOutput_22 (by decide) ?_
  have hPc := hP.sub (ws' := [(h0, .inr (1, [.ref h1, .int (nI (((((k) + 4) + 1) + 1) + 4))])), (h1, .inl (eb, 4096, .inl f_11))]) [0, 1] rfl
  have hDc := hD.sub (ws' := [(h0, .inr (1, [.ref h1, .int (nI (((((k) + 4) + 1) + 1) + 4))])), (h1, .inl (eb, 4096, .inl f_11))]) [0, 1] (by decide) rfl
  have hKc := hK.sub (tys' := [(eb, .byte)]) [0] rfl
  have hFc := va_free (wc := [(h0, .inr (1, [.ref h1, .int (nI (((((k) + 4) + 1) + 1) + 4))])), (h1, .inl (eb, 4096, .inl f_11))]) hD hS hA [0, 1] rfl
  refine va_callv (va_runV (C := R_Row) (As := [.int 95]) (rest := []) ⟨hx, hb, hml, hown, hT⟩ (c_Row_addByte l dC dI z H.size h0 h1 eb f_11 (((((k) + 4) + 1) + 1) + 4) 95 hf_12 (by omega)) ⟨callB_of 1 hT g_Row_addByte rfl rfl rfl (hT _ k_55) (hT _ k_109) (by decide +kernel) ⟨Nat.le_of_ble_eq_true rfl, Nat.le_of_ble_eq_true rfl⟩, (hT _ k_110), (hT _ k_111)⟩ (zz_preV hPc hKc hDc hZ hS hFc hK hP (ci := 1) (q0 := 0) (q := (R_Row, F_Row, 2)) rfl rfl) rfl rfl hl.1 rfl (lv_room (Nat.le_of_ble_eq_true rfl)) d_Row_addKeyOutput_24 ⟨Nat.le_of_ble_eq_true rfl, Nat.le_of_ble_eq_true rfl⟩) hS (fun q _ h => hFc q h) hFc (fun u9 t9 H1 locs ht9 hvm9 hw9 hB9 hz19 hk19 hS => ?_)
  obtain ⟨f_14, hf_15, hP1, hK1, hD1⟩ := hB9
  rw [ht9] at hP1
  obtain ⟨hP, hD⟩ := va_join (wr := []) (w1 := [(h0, .inr (1, [.ref h1, .int (nI ((((((k) + 4) + 1) + 1) + 4) + 1))])), (h1, .inl (eb, 4096, .inl f_14))]) hP hD [0, 1] [] rfl rfl (by decide) (by decide) hk19 hFc hP1 hD1
  generalize H1 = H at hP hS ⊢
  have hP : va_P (dC, dI) cl_all [(h0, .inr (1, [.ref h1, .int (nI ((((((k) + 4) + 1) + 1) + 4) + 1))])), (h1, .inl (eb, 4096, .inl f_14))] H := hP
  have hD : va_D A [(h0, .inr (1, [.ref h1, .int (nI ((((((k) + 4) + 1) + 1) + 4) + 1))])), (h1, .inl (eb, 4096, .inl f_14))] := hD
  have hP9 := hP.sub (ws' := [(h0, .inr (1, [.ref h1, .int (nI (k + 11))])), (h1, .inl (eb, 4096, .inl f_14))]) [0, 1] rfl
  have hD9 := hD.sub (ws' := [(h0, .inr (1, [.ref h1, .int (nI (k + 11))])), (h1, .inl (eb, 4096, .inl f_14))]) [0, 1] (by decide) rfl
  have hK9 := hK.sub (tys' := []) [] rfl
  exact W.vret hx hb hr (fun t9 ht9 hW9 => ⟨⟨(), rfl, trivial, ⟨f_14, hf_15, by rw [ht9]; exact hP9, va_K.moved hW9.alike hK9, hD9⟩⟩, hS.F ht9⟩) hS.2.2 d_Row_addKeyOutput_27
set_option maxHeartbeats 4000000 in
set_option maxRecDepth 100000 in
/-- numberAt 0 of a row of zeros -/
theorem c_CL_numberAt0 (l : Launch) (dC : Nat → ClassId) (dI : Nat → Nat → Nat) (z : zT) (sz : Nat) (h0 : Nat) (eb : ClassId)  : Met l y_CL_numberAt w_CL_numberAt ({ frames := 0, cells := 0, slots := 0, locals := 0 }) (va_Pc [.ref h0, .int 0] (fun U => U.heap.size = sz ∧ va_P (dC, dI) cl_all [(h0, .inl (eb, 32, .inl (fun _ => 0)))] U.heap ∧ va_K (dC, dI) cl_all [(eb, .byte)] U ∧ va_D (fun _ => True) [(h0, .inl (eb, 32, .inl (fun _ => 0)))] ∧ zz z (va_A [(h0, .inl (eb, 32, .inl (fun _ => 0)))] sz) U U.heap)) (va_Qi (fun (r : Int32) (_ : Unit) => r = 0) (fun _ t => va_P (dC, dI) cl_all [(h0, .inl (eb, 32, .inl (fun _ => 0)))] t.heap ∧ va_K (dC, dI) cl_all [] t ∧ va_D (va_A [(h0, .inl (eb, 32, .inl (fun _ => 0)))] sz) [(h0, .inl (eb, 32, .inl (fun _ => 0)))]) (va_A [(h0, .inl (eb, 32, .inl (fun _ => 0)))] sz)) 0 0 (va_A [(h0, .inl (eb, 32, .inl (fun _ => 0)))] sz) := by
  refine Met.ofW (cc := b_CL_numberAt) (maxL := 2) (ret := (some (.int))) (by decide) rfl ?_
  intro p e s m args below meth c s₁ B hml hv
  obtain ⟨rfl, hsz, hP, hK, hD0, hZ⟩ := hv
  have hx := B.exec
  have hb := B.bytes
  have hr := B.returns
  have hT : ∀ w ∈ lw_all, w.before _ s = true := fun w h => atoms_spec (ws := w_CL_numberAt) B.pre w (List.mem_cons_of_mem _ h)
  have hown : s.vm.findClass R_CL = some m.cls := findClass_of_methodNamed B.named
  have hlocks := B.notSynchronized
  subst hsz
  have hD := hD0.self (sz := s.heap.size)
  generalize hAe : va_A [(h0, .inl (eb, 32, .inl (fun _ => 0)))] s.heap.size = A at hD hZ ⊢
  have hA : ∀ q : Nat, s.heap.size ≤ q → A q := fun q h => by rw [← hAe]; exact Or.inr h
  have hS : va_S A s.heap s.heap [] := va_S.rf
  have hl := lv_entry ([.ref h0, .int 0]) (n := 2) (Nat.le_of_ble_eq_true rfl)
  rw [lg_entry_eq]
  generalize (lg_sl ([.ref h0, .int 0]) ++ List.replicate (2 - (lg_sl ([.ref h0, .int 0])).length) Slot.unset).toArray = ls at hl ⊢
  have hl : lv_has ls 2 [(0, .ref h0), (1, .int 0)] := hl
  refine lv_aload_n hx hb d_CL_numberAt_0 rfl (lv_at hl 0 rfl) ?_
  refine lv_iload_n hx hb d_CL_numberAt_1 rfl (lv_at hl 1 rfl) ?_
  refine va_bald hx hb hK hP 0 0 rfl rfl (by unfold vp_in; decide) d_CL_numberAt_2 ?_
  refine zz_i (v := 0) rfl ?_
  refine lv_bipush (v := 24) hx hb d_CL_numberAt_3 (by decide) ?_
  refine lv_ishl hx hb d_CL_numberAt_5 ?_
  refine zz_i (v := 0) (by decide) ?_
  refine lv_aload_n hx hb d_CL_numberAt_6 rfl (lv_at hl 0 rfl) ?_
  refine lv_iload_n hx hb d_CL_numberAt_7 rfl (lv_at hl 1 rfl) ?_
  refine lv_iconst (v := 1) hx hb d_CL_numberAt_8 (by decide) ?_
  refine lv_iadd hx hb d_CL_numberAt_9 ?_
  refine zz_i (v := 1) (by decide) ?_
  refine va_bald hx hb hK hP 0 0 rfl rfl (by unfold vp_in; decide) d_CL_numberAt_10 ?_
  refine zz_i (v := 0) rfl ?_
  refine lv_sipush (v := 255) hx hb d_CL_numberAt_11 (by decide) ?_
  refine lv_iand hx hb d_CL_numberAt_14 ?_
  refine zz_i (v := 0) (by decide) ?_
  refine lv_bipush (v := 16) hx hb d_CL_numberAt_15 (by decide) ?_
  refine lv_ishl hx hb d_CL_numberAt_17 ?_
  refine zz_i (v := 0) (by decide) ?_
  refine lv_ior hx hb d_CL_numberAt_18 ?_
  refine zz_i (v := 0) (by decide) ?_
  refine lv_aload_n hx hb d_CL_numberAt_19 rfl (lv_at hl 0 rfl) ?_
  refine lv_iload_n hx hb d_CL_numberAt_20 rfl (lv_at hl 1 rfl) ?_
  refine lv_iconst (v := 2) hx hb d_CL_numberAt_21 (by decide) ?_
  refine lv_iadd hx hb d_CL_numberAt_22 ?_
  refine zz_i (v := 2) (by decide) ?_
  refine va_bald hx hb hK hP 0 0 rfl rfl (by unfold vp_in; decide) d_CL_numberAt_23 ?_
  refine zz_i (v := 0) rfl ?_
  refine lv_sipush (v := 255) hx hb d_CL_numberAt_24 (by decide) ?_
  refine lv_iand hx hb d_CL_numberAt_27 ?_
  refine zz_i (v := 0) (by decide) ?_
  refine lv_bipush (v := 8) hx hb d_CL_numberAt_28 (by decide) ?_
  refine lv_ishl hx hb d_CL_numberAt_30 ?_
  refine zz_i (v := 0) (by decide) ?_
  refine lv_ior hx hb d_CL_numberAt_31 ?_
  refine zz_i (v := 0) (by decide) ?_
  refine lv_aload_n hx hb d_CL_numberAt_32 rfl (lv_at hl 0 rfl) ?_
  refine lv_iload_n hx hb d_CL_numberAt_33 rfl (lv_at hl 1 rfl) ?_
  refine lv_iconst (v := 3) hx hb d_CL_numberAt_34 (by decide) ?_
  refine lv_iadd hx hb d_CL_numberAt_35 ?_
  refine zz_i (v := 3) (by decide) ?_
  refine va_bald hx hb hK hP 0 0 rfl rfl (by unfold vp_in; decide) d_CL_numberAt_36 ?_
  refine zz_i (v := 0) rfl ?_
  refine lv_sipush (v := 255) hx hb d_CL_numberAt_37 (by decide) ?_
  refine lv_iand hx hb d_CL_numberAt_40 ?_
  refine zz_i (v := 0) (by decide) ?_
  refine lv_ior hx hb d_CL_numberAt_41 ?_
  refine zz_i (v := 0) (by decide) ?_
  have hP9 := hP.sub (ws' := [(h0, .inl (eb, 32, .inl (fun _ => 0)))]) [0] rfl
  have hD9 := hD.sub (ws' := [(h0, .inl (eb, 32, .inl (fun _ => 0)))]) [0] (by decide) rfl
  have hK9 := hK.sub (tys' := []) [] rfl
  exact W.iret (v := 0) hx hb hr (fun t9 ht9 hW9 => ⟨⟨0, (), rfl, rfl, ⟨by rw [ht9]; exact hP9, va_K.moved hW9.alike hK9, hD9⟩⟩, hS.F ht9⟩) hS.2.2 d_CL_numberAt_42
set_option maxHeartbeats 4000000 in
set_option maxRecDepth 100000 in
/-- the reward of height 1 -/
theorem c_CL_rewardAt1 (l : Launch) (dC : Nat → ClassId) (dI : Nat → Nat → Nat) (z : zT) (sz : Nat)   : Met l y_CL_rewardAt w_CL_rewardAt ({ frames := 0, cells := 0, slots := 0, locals := 0 }) (va_Pc [.int 1] (fun U => U.heap.size = sz ∧ va_P (dC, dI) cl_all [] U.heap ∧ va_K (dC, dI) cl_all [] U ∧ va_D (fun _ => True) [] ∧ zz z (va_A [] sz) U U.heap)) (va_Qi (fun (r : Int32) (_ : Unit) => r = 1000000) (fun _ t => True) (va_A [] sz)) 0 0 (va_A [] sz) := by
  refine Met.ofW (cc := b_CL_rewardAt) (maxL := 2) (ret := (some (.int))) (by decide) rfl ?_
  intro p e s m args below meth c s₁ B hml hv
  obtain ⟨rfl, hsz, hP, hK, hD0, hZ⟩ := hv
  have hx := B.exec
  have hb := B.bytes
  have hr := B.returns
  have hT : ∀ w ∈ lw_all, w.before _ s = true := fun w h => atoms_spec (ws := w_CL_rewardAt) B.pre w (List.mem_cons_of_mem _ h)
  have hown : s.vm.findClass R_CL = some m.cls := findClass_of_methodNamed B.named
  have hlocks := B.notSynchronized
  subst hsz
  have hD := hD0.self (sz := s.heap.size)
  generalize hAe : va_A [] s.heap.size = A at hD hZ ⊢
  have hA : ∀ q : Nat, s.heap.size ≤ q → A q := fun q h => by rw [← hAe]; exact Or.inr h
  have hS : va_S A s.heap s.heap [] := va_S.rf
  have hl := lv_entry ([.int 1]) (n := 2) (Nat.le_of_ble_eq_true rfl)
  rw [lg_entry_eq]
  generalize (lg_sl ([.int 1]) ++ List.replicate (2 - (lg_sl ([.int 1])).length) Slot.unset).toArray = ls at hl ⊢
  have hl : lv_has ls 2 [(0, .int 1)] := hl
  refine lv_iload_n hx hb d_CL_rewardAt_0 rfl (lv_at hl 0 rfl) ?_
  refine lv_bipush (v := 16) hx hb d_CL_rewardAt_1 (by decide) ?_
  refine lv_idiv hx hb d_CL_rewardAt_3 (by decide) ?_
  refine zz_i (v := 0) (by decide) ?_
  refine lv_istore_n (lv' := [(1, .int 0), (0, .int 1)]) hx hb d_CL_rewardAt_4 rfl hl (by decide) rfl (fun ls hl => ?_)
  refine lv_iload_n hx hb d_CL_rewardAt_5 rfl (lv_at hl 0 rfl) ?_
  refine lv_bipush (v := 20) hx hb d_CL_rewardAt_6 (by decide) ?_
  refine lv_icmp_lt (tgt := 15) hx hb d_CL_rewardAt_8 (by decide) (fun _ => ?_) (fun h => absurd (by decide) h)
  refine lv_ldcw hx hb hown (hT _ k_112) d_CL_rewardAt_15 ?_
  refine lv_iload_n hx hb d_CL_rewardAt_18 rfl (lv_at hl 0 rfl) ?_
  refine lv_ishr hx hb d_CL_rewardAt_19 ?_
  refine zz_i (v := 1000000) (by decide) ?_
  exact W.iret (v := 1000000) hx hb hr (fun t9 ht9 hW9 => ⟨⟨1000000, (), rfl, rfl, trivial⟩, hS.F ht9⟩) hS.2.2 d_CL_rewardAt_20
