set_option maxHeartbeats 4000000 in
set_option maxRecDepth 100000 in
/-- View(): nothing -/
theorem c_View_init (l : Launch) (dC : Nat → ClassId) (dI : Nat → Nat → Nat) (z : zT) (sz : Nat) (h0 : Nat)  : Met l y_View_init w_View_init ({ frames := 1, cells := 0, slots := 0, locals := 12 }) (va_Pc [.ref h0] (fun U => U.heap.size = sz ∧ va_P (dC, dI) cl_all [] U.heap ∧ va_K (dC, dI) cl_all [] U ∧ va_D (fun _ => True) [] ∧ zz z (va_A [] sz) U U.heap)) (va_Qv (fun _ : Unit => True) (fun _ t => True) (va_A [] sz)) 0 0 (va_A [] sz) := by
  refine Met.ofW (cc := b_View_init) (maxL := 1) (ret := none) (by decide) rfl ?_
  intro p e s m args below meth c s₁ B hml hv
  obtain ⟨rfl, hsz, hP, hK, hD0, hZ⟩ := hv
  have hx := B.exec
  have hb := B.bytes
  have hr := B.returns
  have hT : ∀ w ∈ lw_all, w.before _ s = true := fun w h => atoms_spec (ws := w_View_init) B.pre w (List.mem_cons_of_mem _ h)
  have hown : s.vm.findClass R_View = some m.cls := findClass_of_methodNamed B.named
  have hlocks := B.notSynchronized
  have hin : meth.name = "<init>" := (name_of_methodNamed B.named B.method).1
  subst hsz
  have hD := hD0.self (sz := s.heap.size)
  generalize hAe : va_A [] s.heap.size = A at hD hZ ⊢
  have hA : ∀ q : Nat, s.heap.size ≤ q → A q := fun q h => by rw [← hAe]; exact Or.inr h
  have hS : va_S A s.heap s.heap [] := va_S.rf
  have hl := lv_entry ([.ref h0]) (n := 1) (Nat.le_of_ble_eq_true rfl)
  rw [lg_entry_eq]
  generalize (lg_sl ([.ref h0]) ++ List.replicate (1 - (lg_sl ([.ref h0])).length) Slot.unset).toArray = ls at hl ⊢
  have hl : lv_has ls 1 [(0, .ref h0)] := hl
  refine lv_aload_n hx hb d_View_init_0 rfl (lv_at hl 0 rfl) ?_
  refine W.objInit hx hb hown (hT _ k_0) (hT _ k_1) (hT _ k_2) rfl (by rw [hml]; exact hl.1) rfl d_View_init_1 (Nat.le_of_ble_eq_true rfl) (Nat.le_of_ble_eq_true rfl) ?_
  refine W.eq (g2 := F0 m 4 ls []) rfl ?_
  exact W.vret hx hb hr (fun t9 ht9 hW9 => ⟨⟨(), rfl, trivial, trivial⟩, hS.F ht9⟩) hS.2.2 d_View_init_4
set_option maxHeartbeats 4000000 in
set_option maxRecDepth 100000 in
/-- Ac(): nothing -/
theorem c_Ac_init (l : Launch) (dC : Nat → ClassId) (dI : Nat → Nat → Nat) (z : zT) (sz : Nat) (h0 : Nat)  : Met l y_Ac_init w_Ac_init ({ frames := 1, cells := 0, slots := 0, locals := 12 }) (va_Pc [.ref h0] (fun U => U.heap.size = sz ∧ va_P (dC, dI) cl_all [] U.heap ∧ va_K (dC, dI) cl_all [] U ∧ va_D (fun _ => True) [] ∧ zz z (va_A [] sz) U U.heap)) (va_Qv (fun _ : Unit => True) (fun _ t => True) (va_A [] sz)) 0 0 (va_A [] sz) := by
  refine Met.ofW (cc := b_Ac_init) (maxL := 1) (ret := none) (by decide) rfl ?_
  intro p e s m args below meth c s₁ B hml hv
  obtain ⟨rfl, hsz, hP, hK, hD0, hZ⟩ := hv
  have hx := B.exec
  have hb := B.bytes
  have hr := B.returns
  have hT : ∀ w ∈ lw_all, w.before _ s = true := fun w h => atoms_spec (ws := w_Ac_init) B.pre w (List.mem_cons_of_mem _ h)
  have hown : s.vm.findClass R_Ac = some m.cls := findClass_of_methodNamed B.named
  have hlocks := B.notSynchronized
  have hin : meth.name = "<init>" := (name_of_methodNamed B.named B.method).1
  subst hsz
  have hD := hD0.self (sz := s.heap.size)
  generalize hAe : va_A [] s.heap.size = A at hD hZ ⊢
  have hA : ∀ q : Nat, s.heap.size ≤ q → A q := fun q h => by rw [← hAe]; exact Or.inr h
  have hS : va_S A s.heap s.heap [] := va_S.rf
  have hl := lv_entry ([.ref h0]) (n := 1) (Nat.le_of_ble_eq_true rfl)
  rw [lg_entry_eq]
  generalize (lg_sl ([.ref h0]) ++ List.replicate (1 - (lg_sl ([.ref h0])).length) Slot.unset).toArray = ls at hl ⊢
  have hl : lv_has ls 1 [(0, .ref h0)] := hl
  refine lv_aload_n hx hb d_Ac_init_0 rfl (lv_at hl 0 rfl) ?_
  refine W.objInit hx hb hown (hT _ k_3) (hT _ k_1) (hT _ k_2) rfl (by rw [hml]; exact hl.1) rfl d_Ac_init_1 (Nat.le_of_ble_eq_true rfl) (Nat.le_of_ble_eq_true rfl) ?_
  refine W.eq (g2 := F0 m 4 ls []) rfl ?_
  exact W.vret hx hb hr (fun t9 ht9 hW9 => ⟨⟨(), rfl, trivial, trivial⟩, hS.F ht9⟩) hS.2.2 d_Ac_init_4
set_option maxHeartbeats 4000000 in
set_option maxRecDepth 100000 in
/-- AbstractList(): the count stays 0 -/
theorem c_Ab_init (l : Launch) (dC : Nat → ClassId) (dI : Nat → Nat → Nat) (z : zT) (sz : Nat) (h0 : Nat)  : Met l y_Ab_init w_Ab_init ({ frames := 2, cells := 0, slots := 0, locals := 32 }) (va_Pc [.ref h0] (fun U => U.heap.size = sz ∧ va_P (dC, dI) cl_all [(h0, .inr (10, [.int 0, .null, .int 0]))] U.heap ∧ va_K (dC, dI) cl_all [] U ∧ va_D (fun _ => True) [(h0, .inr (10, [.int 0, .null, .int 0]))] ∧ zz z (va_A [(h0, .inr (10, [.int 0, .null, .int 0]))] sz) U U.heap)) (va_Qv (fun _ : Unit => True) (fun _ t => va_P (dC, dI) cl_all [(h0, .inr (10, [.int 0, .null, .int 0]))] t.heap ∧ va_K (dC, dI) cl_all [] t ∧ va_D (va_A [(h0, .inr (10, [.int 0, .null, .int 0]))] sz) [(h0, .inr (10, [.int 0, .null, .int 0]))]) (va_A [(h0, .inr (10, [.int 0, .null, .int 0]))] sz)) 0 0 (va_A [(h0, .inr (10, [.int 0, .null, .int 0]))] sz) := by
  refine Met.ofW (cc := b_Ab_init) (maxL := 1) (ret := none) (by decide) rfl ?_
  intro p e s m args below meth c s₁ B hml hv
  obtain ⟨rfl, hsz, hP, hK, hD0, hZ⟩ := hv
  have hx := B.exec
  have hb := B.bytes
  have hr := B.returns
  have hT : ∀ w ∈ lw_all, w.before _ s = true := fun w h => atoms_spec (ws := w_Ab_init) B.pre w (List.mem_cons_of_mem _ h)
  have hown : s.vm.findClass R_Ab = some m.cls := findClass_of_methodNamed B.named
  have hlocks := B.notSynchronized
  have hin : meth.name = "<init>" := (name_of_methodNamed B.named B.method).1
  subst hsz
  have hD := hD0.self (sz := s.heap.size)
  generalize hAe : va_A [(h0, .inr (10, [.int 0, .null, .int 0]))] s.heap.size = A at hD hZ ⊢
  have hA : ∀ q : Nat, s.heap.size ≤ q → A q := fun q h => by rw [← hAe]; exact Or.inr h
  have hS : va_S A s.heap s.heap [] := va_S.rf
  have hl := lv_entry ([.ref h0]) (n := 1) (Nat.le_of_ble_eq_true rfl)
  rw [lg_entry_eq]
  generalize (lg_sl ([.ref h0]) ++ List.replicate (1 - (lg_sl ([.ref h0])).length) Slot.unset).toArray = ls at hl ⊢
  have hl : lv_has ls 1 [(0, .ref h0)] := hl
  refine lv_aload_n hx hb d_Ab_init_0 rfl (lv_at hl 0 rfl) ?_
  have hPc := hP.sub (ws' := []) [] rfl
  have hDc := hD.sub (ws' := []) [] (by decide) rfl
  have hKc := hK.sub (tys' := []) [] rfl
  have hFc := va_free (wc := []) hD hS hA [] rfl
  refine va_callv (va_runI (As := []) (rest := []) ⟨hx, hb, hml, hown, hT⟩ (c_Ac_init l dC dI z s.heap.size h0) (cwI 0 hT g_Ac_init rfl rfl rfl (hT _ k_4) (hT _ k_5) (hT _ k_6) rfl (by decide +kernel) ⟨Nat.le_of_ble_eq_true rfl, Nat.le_of_ble_eq_true rfl⟩) (zz_pre hPc hKc hDc hZ hS hFc) rfl rfl hl.1 rfl (lv_room (Nat.le_of_ble_eq_true rfl)) d_Ab_init_1 ⟨Nat.le_of_ble_eq_true rfl, Nat.le_of_ble_eq_true rfl⟩) hS (fun q _ h => hFc q h) hFc (fun u9 t9 H1 locs ht9 hvm9 hw9 hB9 hz19 hk19 hS => ?_)
  have hP1 : va_P (dC, dI) cl_all [] H1 := zz_P0
  have hD1 : va_D (va_A [] s.heap.size) [] := zz_D0
  obtain ⟨hP, hD⟩ := va_join (wr := [(h0, .inr (10, [.int 0, .null, .int 0]))]) (w1 := []) hP hD [] [0] rfl rfl (by decide) (by decide) hk19 hFc hP1 hD1
  generalize H1 = H at hP hS ⊢
  have hP : va_P (dC, dI) cl_all [(h0, .inr (10, [.int 0, .null, .int 0]))] H := hP
  have hD : va_D A [(h0, .inr (10, [.int 0, .null, .int 0]))] := hD
  refine lv_aload_n hx hb d_Ab_init_4 rfl (lv_at hl 0 rfl) ?_
  refine lv_iconst (v := 0) hx hb d_Ab_init_5 (by decide) ?_
  refine va_put (D := (dC, dI)) (ci := 10) (v := .int 0) (ty := .int) (C := R_AL) (T := F_AL) (N := 3) hx hb hT i_AL t_AL t_AL_ok n_AL hown hK hP hD hS 0 rfl rfl 0 (by decide) (hT _ k_7) (fun _ h9 => h9) rfl (by decide +kernel) rfl rfl (Nat.le_of_ble_eq_true rfl) d_Ab_init_6 (fun H locs hP hD hS => ?_)
  have hP : va_P (dC, dI) cl_all [(h0, .inr (10, [.int 0, .null, .int 0]))] H := hP
  have hD : va_D A [(h0, .inr (10, [.int 0, .null, .int 0]))] := hD
  have hP9 := hP.sub (ws' := [(h0, .inr (10, [.int 0, .null, .int 0]))]) [0] rfl
  have hD9 := hD.sub (ws' := [(h0, .inr (10, [.int 0, .null, .int 0]))]) [0] (by decide) rfl
  have hK9 := hK.sub (tys' := []) [] rfl
  exact W.vret hx hb hr (fun t9 ht9 hW9 => ⟨⟨(), rfl, trivial, ⟨by rw [ht9]; exact hP9, va_K.moved hW9.alike hK9, hD9⟩⟩, hS.F ht9⟩) hS.2.2 d_Ab_init_9
set_option maxHeartbeats 4000000 in
set_option maxRecDepth 100000 in
/-- ArrayList(): the shared empty array -/
theorem c_AL_init (l : Launch) (dC : Nat → ClassId) (dI : Nat → Nat → Nat) (z : zT) (sz : Nat) (h0 : Nat)  : Met l y_AL_init w_AL_init ({ frames := 3, cells := 0, slots := 0, locals := 52 }) (va_Pc [.ref h0] (fun U => U.heap.size = sz ∧ va_P (dC, dI) cl_all [(h0, .inr (10, [.int 0, .null, .int 0]))] U.heap ∧ va_K (dC, dI) cl_all [] U ∧ va_D (fun _ => True) [(h0, .inr (10, [.int 0, .null, .int 0]))] ∧ zz z (va_A [(h0, .inr (10, [.int 0, .null, .int 0]))] sz) U U.heap)) (va_Qv (fun _ : Unit => True) (fun _ t => va_P (dC, dI) cl_all [(h0, .inr (10, [.int 0, .ref z.1, .int 0]))] t.heap ∧ va_K (dC, dI) cl_all [] t ∧ va_D (va_A [(h0, .inr (10, [.int 0, .null, .int 0]))] sz) [(h0, .inr (10, [.int 0, .ref z.1, .int 0]))]) (va_A [(h0, .inr (10, [.int 0, .null, .int 0]))] sz)) 0 0 (va_A [(h0, .inr (10, [.int 0, .null, .int 0]))] sz) := by
  refine Met.ofW (cc := b_AL_init) (maxL := 1) (ret := none) (by decide) rfl ?_
  intro p e s m args below meth c s₁ B hml hv
  obtain ⟨rfl, hsz, hP, hK, hD0, hZ⟩ := hv
  have hx := B.exec
  have hb := B.bytes
  have hr := B.returns
  have hT : ∀ w ∈ lw_all, w.before _ s = true := fun w h => atoms_spec (ws := w_AL_init) B.pre w (List.mem_cons_of_mem _ h)
  have hown : s.vm.findClass R_AL = some m.cls := findClass_of_methodNamed B.named
  have hlocks := B.notSynchronized
  have hin : meth.name = "<init>" := (name_of_methodNamed B.named B.method).1
  subst hsz
  have hD := hD0.self (sz := s.heap.size)
  generalize hAe : va_A [(h0, .inr (10, [.int 0, .null, .int 0]))] s.heap.size = A at hD hZ ⊢
  have hA : ∀ q : Nat, s.heap.size ≤ q → A q := fun q h => by rw [← hAe]; exact Or.inr h
  have hS : va_S A s.heap s.heap [] := va_S.rf
  have hl := lv_entry ([.ref h0]) (n := 1) (Nat.le_of_ble_eq_true rfl)
  rw [lg_entry_eq]
  generalize (lg_sl ([.ref h0]) ++ List.replicate (1 - (lg_sl ([.ref h0])).length) Slot.unset).toArray = ls at hl ⊢
  have hl : lv_has ls 1 [(0, .ref h0)] := hl
  refine lv_aload_n hx hb d_AL_init_0 rfl (lv_at hl 0 rfl) ?_
  have hPc := hP.sub (ws' := [(h0, .inr (10, [.int 0, .null, .int 0]))]) [0] rfl
  have hDc := hD.sub (ws' := [(h0, .inr (10, [.int 0, .null, .int 0]))]) [0] (by decide) rfl
  have hKc := hK.sub (tys' := []) [] rfl
  have hFc := va_free (wc := [(h0, .inr (10, [.int 0, .null, .int 0]))]) hD hS hA [0] rfl
  refine va_callv (va_runI (As := []) (rest := []) ⟨hx, hb, hml, hown, hT⟩ (c_Ab_init l dC dI z s.heap.size h0) (cwI 0 hT g_Ab_init rfl rfl rfl (hT _ k_8) (hT _ k_9) (hT _ k_10) rfl (by decide +kernel) ⟨Nat.le_of_ble_eq_true rfl, Nat.le_of_ble_eq_true rfl⟩) (zz_pre hPc hKc hDc hZ hS hFc) rfl rfl hl.1 rfl (lv_room (Nat.le_of_ble_eq_true rfl)) d_AL_init_1 ⟨Nat.le_of_ble_eq_true rfl, Nat.le_of_ble_eq_true rfl⟩) hS (fun q _ h => hFc q h) hFc (fun u9 t9 H1 locs ht9 hvm9 hw9 hB9 hz19 hk19 hS => ?_)
  obtain ⟨hP1, hK1, hD1⟩ := hB9
  rw [ht9] at hP1
  obtain ⟨hP, hD⟩ := va_join (wr := []) (w1 := [(h0, .inr (10, [.int 0, .null, .int 0]))]) hP hD [0] [] rfl rfl (by decide) (by decide) hk19 hFc hP1 hD1
  generalize H1 = H at hP hS ⊢
  have hP : va_P (dC, dI) cl_all [(h0, .inr (10, [.int 0, .null, .int 0]))] H := hP
  have hD : va_D A [(h0, .inr (10, [.int 0, .null, .int 0]))] := hD
  refine lv_aload_n hx hb d_AL_init_4 rfl (lv_at hl 0 rfl) ?_
  refine va_gets hx hb hZ.1 hS hown (hT _ k_11) (fun _ h9 => h9) d_AL_init_5 ?_
  refine va_put (D := (dC, dI)) (ci := 10) (v := .ref z.1) (ty := .array (.object "java/lang/Object")) (C := R_AL) (T := F_AL) (N := 3) hx hb hT i_AL t_AL t_AL_ok n_AL hown hK hP hD hS 0 rfl rfl 1 (by decide) (hT _ k_12) (fun _ h9 => h9) rfl (by decide +kernel) rfl rfl (Nat.le_of_ble_eq_true rfl) d_AL_init_8 (fun H locs hP hD hS => ?_)
  have hP : va_P (dC, dI) cl_all [(h0, .inr (10, [.int 0, .ref z.1, .int 0]))] H := hP
  have hD : va_D A [(h0, .inr (10, [.int 0, .ref z.1, .int 0]))] := hD
  have hP9 := hP.sub (ws' := [(h0, .inr (10, [.int 0, .ref z.1, .int 0]))]) [0] rfl
  have hD9 := hD.sub (ws' := [(h0, .inr (10, [.int 0, .ref z.1, .int 0]))]) [0] (by decide) rfl
  have hK9 := hK.sub (tys' := []) [] rfl
  exact W.vret hx hb hr (fun t9 ht9 hW9 => ⟨⟨(), rfl, trivial, ⟨by rw [ht9]; exact hP9, va_K.moved hW9.alike hK9, hD9⟩⟩, hS.F ht9⟩) hS.2.2 d_AL_init_11
set_option maxHeartbeats 4000000 in
set_option maxRecDepth 100000 in
/-- size() -/
theorem c_AL_size (l : Launch) (dC : Nat → ClassId) (dI : Nat → Nat → Nat) (z : zT) (sz : Nat) (h0 : Nat) (x0 : Int32) (h1 : Nat) (x1 : Int32)  : Met l y_AL_size w_AL_size ({ frames := 0, cells := 0, slots := 0, locals := 0 }) (va_Pc [.ref h0] (fun U => U.heap.size = sz ∧ va_P (dC, dI) cl_all [(h0, .inr (10, [.int x0, .ref h1, .int x1]))] U.heap ∧ va_K (dC, dI) cl_all [] U ∧ va_D (fun _ => True) [(h0, .inr (10, [.int x0, .ref h1, .int x1]))] ∧ zz z (va_A [(h0, .inr (10, [.int x0, .ref h1, .int x1]))] sz) U U.heap)) (va_Qi (fun (r : Int32) (_ : Unit) => r = x1) (fun _ t => va_P (dC, dI) cl_all [(h0, .inr (10, [.int x0, .ref h1, .int x1]))] t.heap ∧ va_K (dC, dI) cl_all [] t ∧ va_D (va_A [(h0, .inr (10, [.int x0, .ref h1, .int x1]))] sz) [(h0, .inr (10, [.int x0, .ref h1, .int x1]))]) (va_A [(h0, .inr (10, [.int x0, .ref h1, .int x1]))] sz)) 0 0 (va_A [(h0, .inr (10, [.int x0, .ref h1, .int x1]))] sz) := by
  refine Met.ofW (cc := b_AL_size) (maxL := 1) (ret := (some (.int))) (by decide) rfl ?_
  intro p e s m args below meth c s₁ B hml hv
  obtain ⟨rfl, hsz, hP, hK, hD0, hZ⟩ := hv
  have hx := B.exec
  have hb := B.bytes
  have hr := B.returns
  have hT : ∀ w ∈ lw_all, w.before _ s = true := fun w h => atoms_spec (ws := w_AL_size) B.pre w (List.mem_cons_of_mem _ h)
  have hown : s.vm.findClass R_AL = some m.cls := findClass_of_methodNamed B.named
  have hlocks := B.notSynchronized
  subst hsz
  have hD := hD0.self (sz := s.heap.size)
  generalize hAe : va_A [(h0, .inr (10, [.int x0, .ref h1, .int x1]))] s.heap.size = A at hD hZ ⊢
  have hA : ∀ q : Nat, s.heap.size ≤ q → A q := fun q h => by rw [← hAe]; exact Or.inr h
  have hS : va_S A s.heap s.heap [] := va_S.rf
  have hl := lv_entry ([.ref h0]) (n := 1) (Nat.le_of_ble_eq_true rfl)
  rw [lg_entry_eq]
  generalize (lg_sl ([.ref h0]) ++ List.replicate (1 - (lg_sl ([.ref h0])).length) Slot.unset).toArray = ls at hl ⊢
  have hl : lv_has ls 1 [(0, .ref h0)] := hl
  refine lv_aload_n hx hb d_AL_size_0 rfl (lv_at hl 0 rfl) ?_
  refine va_get (D := (dC, dI)) (ci := 10) (v := .int x1) (C := R_AL) (T := F_AL) (N := 3) hx hb hT i_AL hown hK hP 0 rfl rfl 2 (by decide) (hT _ k_13) (fun _ h9 => h9) rfl d_AL_size_1 ?_
  have hP9 := hP.sub (ws' := [(h0, .inr (10, [.int x0, .ref h1, .int x1]))]) [0] rfl
  have hD9 := hD.sub (ws' := [(h0, .inr (10, [.int x0, .ref h1, .int x1]))]) [0] (by decide) rfl
  have hK9 := hK.sub (tys' := []) [] rfl
  exact W.iret (v := x1) hx hb hr (fun t9 ht9 hW9 => ⟨⟨x1, (), rfl, rfl, ⟨by rw [ht9]; exact hP9, va_K.moved hW9.alike hK9, hD9⟩⟩, hS.F ht9⟩) hS.2.2 d_AL_size_4
set_option maxHeartbeats 4000000 in
set_option maxRecDepth 100000 in
/-- Row(): 4096 zero bytes, none used -/
theorem c_Row_init (l : Launch) (dC : Nat → ClassId) (dI : Nat → Nat → Nat) (z : zT) (sz : Nat) (h0 : Nat)  : Met l y_Row_init w_Row_init ({ frames := 1, cells := 1, slots := 4096, locals := 12 }) (va_Pc [.ref h0] (fun U => U.heap.size = sz ∧ va_P (dC, dI) cl_all [(h0, .inr (1, [.null, .int 0]))] U.heap ∧ va_K (dC, dI) cl_all [] U ∧ va_D (fun _ => True) [(h0, .inr (1, [.null, .int 0]))] ∧ zz z (va_A [(h0, .inr (1, [.null, .int 0]))] sz) U U.heap)) (va_Qv (fun _ : Unit => True) (fun _ t => ∃ (qb : Nat) (eb : ClassId), va_P (dC, dI) cl_all [(h0, .inr (1, [.ref qb, .int 0])), (qb, .inl (eb, 4096, .inl (fun _ => 0)))] t.heap ∧ va_K (dC, dI) cl_all [(eb, .byte)] t ∧ va_D (va_A [(h0, .inr (1, [.null, .int 0]))] sz) [(h0, .inr (1, [.ref qb, .int 0])), (qb, .inl (eb, 4096, .inl (fun _ => 0)))]) (va_A [(h0, .inr (1, [.null, .int 0]))] sz)) 1 4096 (va_A [(h0, .inr (1, [.null, .int 0]))] sz) := by
  refine Met.ofW (cc := b_Row_init) (maxL := 1) (ret := none) (by decide) rfl ?_
  intro p e s m args below meth c s₁ B hml hv
  obtain ⟨rfl, hsz, hP, hK, hD0, hZ⟩ := hv
  have hx := B.exec
  have hb := B.bytes
  have hr := B.returns
  have hT : ∀ w ∈ lw_all, w.before _ s = true := fun w h => atoms_spec (ws := w_Row_init) B.pre w (List.mem_cons_of_mem _ h)
  have hown : s.vm.findClass R_Row = some m.cls := findClass_of_methodNamed B.named
  have hlocks := B.notSynchronized
  have hin : meth.name = "<init>" := (name_of_methodNamed B.named B.method).1
  subst hsz
  have hD := hD0.self (sz := s.heap.size)
  generalize hAe : va_A [(h0, .inr (1, [.null, .int 0]))] s.heap.size = A at hD hZ ⊢
  have hA : ∀ q : Nat, s.heap.size ≤ q → A q := fun q h => by rw [← hAe]; exact Or.inr h
  have hS : va_S A s.heap s.heap [] := va_S.rf
  have hl := lv_entry ([.ref h0]) (n := 1) (Nat.le_of_ble_eq_true rfl)
  rw [lg_entry_eq]
  generalize (lg_sl ([.ref h0]) ++ List.replicate (1 - (lg_sl ([.ref h0])).length) Slot.unset).toArray = ls at hl ⊢
  have hl : lv_has ls 1 [(0, .ref h0)] := hl
  refine lv_aload_n hx hb d_Row_init_0 rfl (lv_at hl 0 rfl) ?_
  refine W.objInit hx hb hown (hT _ k_14) (hT _ k_1) (hT _ k_2) rfl (by rw [hml]; exact hl.1) rfl d_Row_init_1 (Nat.le_of_ble_eq_true rfl) (Nat.le_of_ble_eq_true rfl) ?_
  refine W.eq (g2 := F0 m 4 ls []) rfl ?_
  refine lv_aload_n hx hb d_Row_init_4 rfl (lv_at hl 0 rfl) ?_
  refine lv_sipush (v := 4096) hx hb d_Row_init_5 (by decide) ?_
  refine va_newa (atype := .byte) (a0 := (4096, .inl (fun _ => 0))) hx hb (hT _ k_15) (ty := .byte) rfl hK hP hD hS hA (fun _ => rfl) (by decide) (N' := 4096) (by decide) (by decide) (Nat.le_of_ble_eq_true rfl) (Nat.le_of_ble_eq_true rfl) d_Row_init_8 (fun q_1 e_2 H hK hP hD hS => ?_)
  have hK : va_K (dC, dI) cl_all [(e_2, .byte)] s := hK
  have hP : va_P (dC, dI) cl_all [(h0, .inr (1, [.null, .int 0])), (q_1, .inl (e_2, 4096, .inl (fun _ => 0)))] H := hP
  have hD : va_D A [(h0, .inr (1, [.null, .int 0])), (q_1, .inl (e_2, 4096, .inl (fun _ => 0)))] := hD
  refine W.widen (k := 1) (n := 4096) (Nat.le_of_ble_eq_true rfl) (Nat.le_of_ble_eq_true rfl) ?_
  refine va_putF (D := (dC, dI)) (ci := 1) (v := .ref q_1) (ty := .array (.byte)) (C := R_Row) (T := F_Row) (N := 2) hx hb hT i_Row t_Row t_Row_ok n_Row hown hK hP hD hS 0 rfl rfl 0 (by decide) (hT _ k_16) (fun _ h9 => h9) rfl hin rfl (by decide +kernel) rfl rfl (Nat.le_of_ble_eq_true rfl) d_Row_init_10 (fun H locs hP hD hS => ?_)
  have hP : va_P (dC, dI) cl_all [(h0, .inr (1, [.ref q_1, .int 0])), (q_1, .inl (e_2, 4096, .inl (fun _ => 0)))] H := hP
  have hD : va_D A [(h0, .inr (1, [.ref q_1, .int 0])), (q_1, .inl (e_2, 4096, .inl (fun _ => 0)))] := hD
  have hP9 := hP.sub (ws' := [(h0, .inr (1, [.ref q_1, .int 0])), (q_1, .inl (e_2, 4096, .inl (fun _ => 0)))]) [0, 1] rfl
  have hD9 := hD.sub (ws' := [(h0, .inr (1, [.ref q_1, .int 0])), (q_1, .inl (e_2, 4096, .inl (fun _ => 0)))]) [0, 1] (by decide) rfl
  have hK9 := hK.sub (tys' := [(e_2, .byte)]) [0] rfl
  exact W.vret hx hb hr (fun t9 ht9 hW9 => ⟨⟨(), rfl, trivial, ⟨q_1, e_2, by rw [ht9]; exact hP9, va_K.moved hW9.alike hK9, hD9⟩⟩, hS.F ht9⟩) hS.2.2 d_Row_init_13
set_option maxHeartbeats 4000000 in
set_option maxRecDepth 100000 in
/-- Sha(): its two rows -/
theorem c_Sha_init (l : Launch) (dC : Nat → ClassId) (dI : Nat → Nat → Nat) (z : zT) (sz : Nat) (h0 : Nat)  : Met l y_Sha_init w_Sha_init ({ frames := 1, cells := 2, slots := 72, locals := 12 }) (va_Pc [.ref h0] (fun U => U.heap.size = sz ∧ va_P (dC, dI) cl_all [(h0, .inr (2, [.null, .null]))] U.heap ∧ va_K (dC, dI) cl_all [] U ∧ va_D (fun _ => True) [(h0, .inr (2, [.null, .null]))] ∧ zz z (va_A [(h0, .inr (2, [.null, .null]))] sz) U U.heap)) (va_Qv (fun _ : Unit => True) (fun _ t => ∃ (q1 : Nat) (q2 : Nat) (e1 : ClassId) (e2 : ClassId), va_P (dC, dI) cl_all [(h0, .inr (2, [.ref q1, .ref q2])), (q1, .inl (e1, 64, .inl (fun _ => 0))), (q2, .inl (e2, 8, .inl (fun _ => 0)))] t.heap ∧ va_K (dC, dI) cl_all [(e1, .int), (e2, .int)] t ∧ va_D (va_A [(h0, .inr (2, [.null, .null]))] sz) [(h0, .inr (2, [.ref q1, .ref q2])), (q1, .inl (e1, 64, .inl (fun _ => 0))), (q2, .inl (e2, 8, .inl (fun _ => 0)))]) (va_A [(h0, .inr (2, [.null, .null]))] sz)) 2 72 (va_A [(h0, .inr (2, [.null, .null]))] sz) := by
  refine Met.ofW (cc := b_Sha_init) (maxL := 1) (ret := none) (by decide) rfl ?_
  intro p e s m args below meth c s₁ B hml hv
  obtain ⟨rfl, hsz, hP, hK, hD0, hZ⟩ := hv
  have hx := B.exec
  have hb := B.bytes
  have hr := B.returns
  have hT : ∀ w ∈ lw_all, w.before _ s = true := fun w h => atoms_spec (ws := w_Sha_init) B.pre w (List.mem_cons_of_mem _ h)
  have hown : s.vm.findClass R_Sha = some m.cls := findClass_of_methodNamed B.named
  have hlocks := B.notSynchronized
  have hin : meth.name = "<init>" := (name_of_methodNamed B.named B.method).1
  subst hsz
  have hD := hD0.self (sz := s.heap.size)
  generalize hAe : va_A [(h0, .inr (2, [.null, .null]))] s.heap.size = A at hD hZ ⊢
  have hA : ∀ q : Nat, s.heap.size ≤ q → A q := fun q h => by rw [← hAe]; exact Or.inr h
  have hS : va_S A s.heap s.heap [] := va_S.rf
  have hl := lv_entry ([.ref h0]) (n := 1) (Nat.le_of_ble_eq_true rfl)
  rw [lg_entry_eq]
  generalize (lg_sl ([.ref h0]) ++ List.replicate (1 - (lg_sl ([.ref h0])).length) Slot.unset).toArray = ls at hl ⊢
  have hl : lv_has ls 1 [(0, .ref h0)] := hl
  refine lv_aload_n hx hb d_Sha_init_0 rfl (lv_at hl 0 rfl) ?_
  refine W.objInit hx hb hown (hT _ k_17) (hT _ k_1) (hT _ k_2) rfl (by rw [hml]; exact hl.1) rfl d_Sha_init_1 (Nat.le_of_ble_eq_true rfl) (Nat.le_of_ble_eq_true rfl) ?_
  refine W.eq (g2 := F0 m 4 ls []) rfl ?_
  refine lv_aload_n hx hb d_Sha_init_4 rfl (lv_at hl 0 rfl) ?_
  refine lv_bipush (v := 64) hx hb d_Sha_init_5 (by decide) ?_
  refine va_newa (atype := .int) (a0 := (64, .inl (fun _ => 0))) hx hb (hT _ k_18) (ty := .int) rfl hK hP hD hS hA (fun _ => rfl) (by decide) (N' := 64) (by decide) (by decide) (Nat.le_of_ble_eq_true rfl) (Nat.le_of_ble_eq_true rfl) d_Sha_init_7 (fun q_1 e_2 H hK hP hD hS => ?_)
  have hK : va_K (dC, dI) cl_all [(e_2, .int)] s := hK
  have hP : va_P (dC, dI) cl_all [(h0, .inr (2, [.null, .null])), (q_1, .inl (e_2, 64, .inl (fun _ => 0)))] H := hP
  have hD : va_D A [(h0, .inr (2, [.null, .null])), (q_1, .inl (e_2, 64, .inl (fun _ => 0)))] := hD
  refine W.widen (k := 1) (n := 64) (Nat.le_of_ble_eq_true rfl) (Nat.le_of_ble_eq_true rfl) ?_
  refine va_putF (D := (dC, dI)) (ci := 2) (v := .ref q_1) (ty := .array (.int)) (C := R_Sha) (T := F_Sha) (N := 2) hx hb hT i_Sha t_Sha t_Sha_ok n_Sha hown hK hP hD hS 0 rfl rfl 0 (by decide) (hT _ k_19) (fun _ h9 => h9) rfl hin rfl (by decide +kernel) rfl rfl (Nat.le_of_ble_eq_true rfl) d_Sha_init_9 (fun H locs hP hD hS => ?_)
  have hP : va_P (dC, dI) cl_all [(h0, .inr (2, [.ref q_1, .null])), (q_1, .inl (e_2, 64, .inl (fun _ => 0)))] H := hP
  have hD : va_D A [(h0, .inr (2, [.ref q_1, .null])), (q_1, .inl (e_2, 64, .inl (fun _ => 0)))] := hD
  refine lv_aload_n hx hb d_Sha_init_12 rfl (lv_at hl 0 rfl) ?_
  refine lv_bipush (v := 8) hx hb d_Sha_init_13 (by decide) ?_
  refine va_newa (atype := .int) (a0 := (8, .inl (fun _ => 0))) hx hb (hT _ k_18) (ty := .int) rfl hK hP hD hS hA (fun _ => rfl) (by decide) (N' := 8) (by decide) (by decide) (Nat.le_of_ble_eq_true rfl) (Nat.le_of_ble_eq_true rfl) d_Sha_init_15 (fun q_3 e_4 H hK hP hD hS => ?_)
  have hK : va_K (dC, dI) cl_all [(e_2, .int), (e_4, .int)] s := hK
  have hP : va_P (dC, dI) cl_all [(h0, .inr (2, [.ref q_1, .null])), (q_1, .inl (e_2, 64, .inl (fun _ => 0))), (q_3, .inl (e_4, 8, .inl (fun _ => 0)))] H := hP
  have hD : va_D A [(h0, .inr (2, [.ref q_1, .null])), (q_1, .inl (e_2, 64, .inl (fun _ => 0))), (q_3, .inl (e_4, 8, .inl (fun _ => 0)))] := hD
  refine W.widen (k := 2) (n := 72) (Nat.le_of_ble_eq_true rfl) (Nat.le_of_ble_eq_true rfl) ?_
  refine va_putF (D := (dC, dI)) (ci := 2) (v := .ref q_3) (ty := .array (.int)) (C := R_Sha) (T := F_Sha) (N := 2) hx hb hT i_Sha t_Sha t_Sha_ok n_Sha hown hK hP hD hS 0 rfl rfl 1 (by decide) (hT _ k_20) (fun _ h9 => h9) rfl hin rfl (by decide +kernel) rfl rfl (Nat.le_of_ble_eq_true rfl) d_Sha_init_17 (fun H locs hP hD hS => ?_)
  have hP : va_P (dC, dI) cl_all [(h0, .inr (2, [.ref q_1, .ref q_3])), (q_1, .inl (e_2, 64, .inl (fun _ => 0))), (q_3, .inl (e_4, 8, .inl (fun _ => 0)))] H := hP
  have hD : va_D A [(h0, .inr (2, [.ref q_1, .ref q_3])), (q_1, .inl (e_2, 64, .inl (fun _ => 0))), (q_3, .inl (e_4, 8, .inl (fun _ => 0)))] := hD
  have hP9 := hP.sub (ws' := [(h0, .inr (2, [.ref q_1, .ref q_3])), (q_1, .inl (e_2, 64, .inl (fun _ => 0))), (q_3, .inl (e_4, 8, .inl (fun _ => 0)))]) [0, 1, 2] rfl
  have hD9 := hD.sub (ws' := [(h0, .inr (2, [.ref q_1, .ref q_3])), (q_1, .inl (e_2, 64, .inl (fun _ => 0))), (q_3, .inl (e_4, 8, .inl (fun _ => 0)))]) [0, 1, 2] (by decide) rfl
  have hK9 := hK.sub (tys' := [(e_2, .int), (e_4, .int)]) [0, 1] rfl
  exact W.vret hx hb hr (fun t9 ht9 hW9 => ⟨⟨(), rfl, trivial, ⟨q_1, q_3, e_2, e_4, by rw [ht9]; exact hP9, va_K.moved hW9.alike hK9, hD9⟩⟩, hS.F ht9⟩) hS.2.2 d_Sha_init_20
set_option maxHeartbeats 4000000 in
set_option maxRecDepth 100000 in
/-- Block() -/
theorem c_Block_init (l : Launch) (dC : Nat → ClassId) (dI : Nat → Nat → Nat) (z : zT) (sz : Nat) (h0 : Nat)  : Met l y_Block_init w_Block_init ({ frames := 4, cells := 3, slots := 67, locals := 72 }) (va_Pc [.ref h0] (fun U => U.heap.size = sz ∧ va_P (dC, dI) cl_all [(h0, .inr (6, [.null, .int 0, .null, .int 0, .int 0, .int 0, .null, .int 0, .null, .int 0, .int 0, .long 0, .int 0, .int 0, .int 0, .int 0, .null]))] U.heap ∧ va_K (dC, dI) cl_all [] U ∧ va_D (fun _ => True) [(h0, .inr (6, [.null, .int 0, .null, .int 0, .int 0, .int 0, .null, .int 0, .null, .int 0, .int 0, .long 0, .int 0, .int 0, .int 0, .int 0, .null]))] ∧ zz z (va_A [(h0, .inr (6, [.null, .int 0, .null, .int 0, .int 0, .int 0, .null, .int 0, .null, .int 0, .int 0, .long 0, .int 0, .int 0, .int 0, .int 0, .null]))] sz) U U.heap)) (va_Qv (fun _ : Unit => True) (fun _ t => ∃ (q1 : Nat) (q2 : Nat) (q3 : Nat) (e1 : ClassId), va_P (dC, dI) cl_all [(h0, .inr (6, [.null, .int 0, .ref q1, .int 0, .int 0, .int 0, .ref q2, .int 0, .null, .int 0, .int 0, .long 0, .int 0, .int 0, .int 0, .int 0, .ref q3])), (q1, .inl (e1, 32, .inl (fun _ => 0)))] t.heap ∧ va_K (dC, dI) cl_all [(e1, .byte)] t ∧ va_D (va_A [(h0, .inr (6, [.null, .int 0, .null, .int 0, .int 0, .int 0, .null, .int 0, .null, .int 0, .int 0, .long 0, .int 0, .int 0, .int 0, .int 0, .null]))] sz) [(h0, .inr (6, [.null, .int 0, .ref q1, .int 0, .int 0, .int 0, .ref q2, .int 0, .null, .int 0, .int 0, .long 0, .int 0, .int 0, .int 0, .int 0, .ref q3])), (q1, .inl (e1, 32, .inl (fun _ => 0)))]) (va_A [(h0, .inr (6, [.null, .int 0, .null, .int 0, .int 0, .int 0, .null, .int 0, .null, .int 0, .int 0, .long 0, .int 0, .int 0, .int 0, .int 0, .null]))] sz)) 3 67 (va_A [(h0, .inr (6, [.null, .int 0, .null, .int 0, .int 0, .int 0, .null, .int 0, .null, .int 0, .int 0, .long 0, .int 0, .int 0, .int 0, .int 0, .null]))] sz) := by
  refine Met.ofW (cc := b_Block_init) (maxL := 1) (ret := none) (by decide) rfl ?_
  intro p e s m args below meth c s₁ B hml hv
  obtain ⟨rfl, hsz, hP, hK, hD0, hZ⟩ := hv
  have hx := B.exec
  have hb := B.bytes
  have hr := B.returns
  have hT : ∀ w ∈ lw_all, w.before _ s = true := fun w h => atoms_spec (ws := w_Block_init) B.pre w (List.mem_cons_of_mem _ h)
  have hown : s.vm.findClass R_Block = some m.cls := findClass_of_methodNamed B.named
  have hlocks := B.notSynchronized
  have hin : meth.name = "<init>" := (name_of_methodNamed B.named B.method).1
  subst hsz
  have hD := hD0.self (sz := s.heap.size)
  generalize hAe : va_A [(h0, .inr (6, [.null, .int 0, .null, .int 0, .int 0, .int 0, .null, .int 0, .null, .int 0, .int 0, .long 0, .int 0, .int 0, .int 0, .int 0, .null]))] s.heap.size = A at hD hZ ⊢
  have hA : ∀ q : Nat, s.heap.size ≤ q → A q := fun q h => by rw [← hAe]; exact Or.inr h
  have hS : va_S A s.heap s.heap [] := va_S.rf
  have hl := lv_entry ([.ref h0]) (n := 1) (Nat.le_of_ble_eq_true rfl)
  rw [lg_entry_eq]
  generalize (lg_sl ([.ref h0]) ++ List.replicate (1 - (lg_sl ([.ref h0])).length) Slot.unset).toArray = ls at hl ⊢
  have hl : lv_has ls 1 [(0, .ref h0)] := hl
  refine lv_aload_n hx hb d_Block_init_0 rfl (lv_at hl 0 rfl) ?_
  refine W.objInit hx hb hown (hT _ k_21) (hT _ k_1) (hT _ k_2) rfl (by rw [hml]; exact hl.1) rfl d_Block_init_1 (Nat.le_of_ble_eq_true rfl) (Nat.le_of_ble_eq_true rfl) ?_
  refine W.eq (g2 := F0 m 4 ls []) rfl ?_
  refine lv_aload_n hx hb d_Block_init_4 rfl (lv_at hl 0 rfl) ?_
  refine lv_bipush (v := 32) hx hb d_Block_init_5 (by decide) ?_
  refine va_newa (atype := .byte) (a0 := (32, .inl (fun _ => 0))) hx hb (hT _ k_15) (ty := .byte) rfl hK hP hD hS hA (fun _ => rfl) (by decide) (N' := 32) (by decide) (by decide) (Nat.le_of_ble_eq_true rfl) (Nat.le_of_ble_eq_true rfl) d_Block_init_7 (fun q_1 e_2 H hK hP hD hS => ?_)
  have hK : va_K (dC, dI) cl_all [(e_2, .byte)] s := hK
  have hP : va_P (dC, dI) cl_all [(h0, .inr (6, [.null, .int 0, .null, .int 0, .int 0, .int 0, .null, .int 0, .null, .int 0, .int 0, .long 0, .int 0, .int 0, .int 0, .int 0, .null])), (q_1, .inl (e_2, 32, .inl (fun _ => 0)))] H := hP
  have hD : va_D A [(h0, .inr (6, [.null, .int 0, .null, .int 0, .int 0, .int 0, .null, .int 0, .null, .int 0, .int 0, .long 0, .int 0, .int 0, .int 0, .int 0, .null])), (q_1, .inl (e_2, 32, .inl (fun _ => 0)))] := hD
  refine W.widen (k := 1) (n := 32) (Nat.le_of_ble_eq_true rfl) (Nat.le_of_ble_eq_true rfl) ?_
  refine va_putF (D := (dC, dI)) (ci := 6) (v := .ref q_1) (ty := .array (.byte)) (C := R_Block) (T := F_Block) (N := 17) hx hb hT i_Block t_Block t_Block_ok n_Block hown hK hP hD hS 0 rfl rfl 2 (by decide) (hT _ k_22) (fun _ h9 => h9) rfl hin rfl (by decide +kernel) rfl rfl (Nat.le_of_ble_eq_true rfl) d_Block_init_9 (fun H locs hP hD hS => ?_)
  have hP : va_P (dC, dI) cl_all [(h0, .inr (6, [.null, .int 0, .ref q_1, .int 0, .int 0, .int 0, .null, .int 0, .null, .int 0, .int 0, .long 0, .int 0, .int 0, .int 0, .int 0, .null])), (q_1, .inl (e_2, 32, .inl (fun _ => 0)))] H := hP
  have hD : va_D A [(h0, .inr (6, [.null, .int 0, .ref q_1, .int 0, .int 0, .int 0, .null, .int 0, .null, .int 0, .int 0, .long 0, .int 0, .int 0, .int 0, .int 0, .null])), (q_1, .inl (e_2, 32, .inl (fun _ => 0)))] := hD
  refine lv_aload_n hx hb d_Block_init_12 rfl (lv_at hl 0 rfl) ?_
  refine lv_bipush (v := 32) hx hb d_Block_init_13 (by decide) ?_
  refine va_newq (C := "ChainLedger$Payment") hx hb hown (hT _ k_23) (zz_N hZ).2.2.1 hK hP hD hS hA (by decide) (N' := 32) (by decide) (by decide) (Nat.le_of_ble_eq_true rfl) (Nat.le_of_ble_eq_true rfl) d_Block_init_15 (fun q_3 e_4 H hK hP hD hS => ?_)
  have hK : va_K (dC, dI) cl_all [(e_2, .byte), (e_4, .object "ChainLedger$Payment")] s := hK
  have hP : va_P (dC, dI) cl_all [(h0, .inr (6, [.null, .int 0, .ref q_1, .int 0, .int 0, .int 0, .null, .int 0, .null, .int 0, .int 0, .long 0, .int 0, .int 0, .int 0, .int 0, .null])), (q_1, .inl (e_2, 32, .inl (fun _ => 0))), (q_3, .inl (e_4, 32, .inr (.inr (.inr (.inr (fun _ => none))))))] H := hP
  have hD : va_D A [(h0, .inr (6, [.null, .int 0, .ref q_1, .int 0, .int 0, .int 0, .null, .int 0, .null, .int 0, .int 0, .long 0, .int 0, .int 0, .int 0, .int 0, .null])), (q_1, .inl (e_2, 32, .inl (fun _ => 0))), (q_3, .inl (e_4, 32, .inr (.inr (.inr (.inr (fun _ => none))))))] := hD
  refine W.widen (k := 2) (n := 64) (Nat.le_of_ble_eq_true rfl) (Nat.le_of_ble_eq_true rfl) ?_
  refine va_putF (D := (dC, dI)) (ci := 6) (v := .ref q_3) (ty := .array (.object "ChainLedger$Payment")) (C := R_Block) (T := F_Block) (N := 17) hx hb hT i_Block t_Block t_Block_ok n_Block hown hK hP hD hS 0 rfl rfl 6 (by decide) (hT _ k_24) (fun _ h9 => h9) rfl hin rfl (by decide +kernel) rfl rfl (Nat.le_of_ble_eq_true rfl) d_Block_init_18 (fun H locs hP hD hS => ?_)
  have hP : va_P (dC, dI) cl_all [(h0, .inr (6, [.null, .int 0, .ref q_1, .int 0, .int 0, .int 0, .ref q_3, .int 0, .null, .int 0, .int 0, .long 0, .int 0, .int 0, .int 0, .int 0, .null])), (q_1, .inl (e_2, 32, .inl (fun _ => 0))), (q_3, .inl (e_4, 32, .inr (.inr (.inr (.inr (fun _ => none))))))] H := hP
  have hD : va_D A [(h0, .inr (6, [.null, .int 0, .ref q_1, .int 0, .int 0, .int 0, .ref q_3, .int 0, .null, .int 0, .int 0, .long 0, .int 0, .int 0, .int 0, .int 0, .null])), (q_1, .inl (e_2, 32, .inl (fun _ => 0))), (q_3, .inl (e_4, 32, .inr (.inr (.inr (.inr (fun _ => none))))))] := hD
  refine lv_aload_n hx hb d_Block_init_21 rfl (lv_at hl 0 rfl) ?_
  refine va_new (ci := 10) (fs := [.int 0, .null, .int 0]) (C := R_AL) (T := F_AL) (N := 3) hx hb hT i_AL t_AL t_AL_ok hown (hT _ k_25) (hT _ k_26) (hT _ k_27) hK hP hD hS hA rfl (fun j hj => df_AL j hj) (Nat.le_of_ble_eq_true rfl) (Nat.le_of_ble_eq_true rfl) d_Block_init_22 (fun q_5 H hP hD hS => ?_)
  have hP : va_P (dC, dI) cl_all [(h0, .inr (6, [.null, .int 0, .ref q_1, .int 0, .int 0, .int 0, .ref q_3, .int 0, .null, .int 0, .int 0, .long 0, .int 0, .int 0, .int 0, .int 0, .null])), (q_1, .inl (e_2, 32, .inl (fun _ => 0))), (q_3, .inl (e_4, 32, .inr (.inr (.inr (.inr (fun _ => none)))))), (q_5, .inr (10, [.int 0, .null, .int 0]))] H := hP
  have hD : va_D A [(h0, .inr (6, [.null, .int 0, .ref q_1, .int 0, .int 0, .int 0, .ref q_3, .int 0, .null, .int 0, .int 0, .long 0, .int 0, .int 0, .int 0, .int 0, .null])), (q_1, .inl (e_2, 32, .inl (fun _ => 0))), (q_3, .inl (e_4, 32, .inr (.inr (.inr (.inr (fun _ => none)))))), (q_5, .inr (10, [.int 0, .null, .int 0]))] := hD
  refine W.widen (k := 3) (n := 67) (Nat.le_of_ble_eq_true rfl) (Nat.le_of_ble_eq_true rfl) ?_
  refine lv_dup hx hb d_Block_init_25 rfl ?_
  have hPc := hP.sub (ws' := [(q_5, .inr (10, [.int 0, .null, .int 0]))]) [3] rfl
  have hDc := hD.sub (ws' := [(q_5, .inr (10, [.int 0, .null, .int 0]))]) [3] (by decide) rfl
  have hKc := hK.sub (tys' := []) [] rfl
  have hFc := va_free (wc := [(q_5, .inr (10, [.int 0, .null, .int 0]))]) hD hS hA [3] rfl
  refine va_callv (va_runI (As := []) (rest := [.ref q_5, .ref h0]) ⟨hx, hb, hml, hown, hT⟩ (c_AL_init l dC dI z H.size q_5) (cwI 0 hT g_AL_init rfl rfl rfl (hT _ k_27) (hT _ k_28) (hT _ k_29) rfl (by decide +kernel) ⟨Nat.le_of_ble_eq_true rfl, Nat.le_of_ble_eq_true rfl⟩) (zz_pre hPc hKc hDc hZ hS hFc) rfl rfl hl.1 rfl (lv_room (Nat.le_of_ble_eq_true rfl)) d_Block_init_26 ⟨Nat.le_of_ble_eq_true rfl, Nat.le_of_ble_eq_true rfl⟩) hS (fun q _ h => hFc q h) hFc (fun u9 t9 H1 locs ht9 hvm9 hw9 hB9 hz19 hk19 hS => ?_)
  obtain ⟨hP1, hK1, hD1⟩ := hB9
  rw [ht9] at hP1
  obtain ⟨hP, hD⟩ := va_join (wr := [(h0, .inr (6, [.null, .int 0, .ref q_1, .int 0, .int 0, .int 0, .ref q_3, .int 0, .null, .int 0, .int 0, .long 0, .int 0, .int 0, .int 0, .int 0, .null])), (q_1, .inl (e_2, 32, .inl (fun _ => 0))), (q_3, .inl (e_4, 32, .inr (.inr (.inr (.inr (fun _ => none))))))]) (w1 := [(q_5, .inr (10, [.int 0, .ref z.1, .int 0]))]) hP hD [3] [0, 1, 2] rfl rfl (by decide) (by decide) hk19 hFc hP1 hD1
  generalize H1 = H at hP hS ⊢
  have hP : va_P (dC, dI) cl_all [(h0, .inr (6, [.null, .int 0, .ref q_1, .int 0, .int 0, .int 0, .ref q_3, .int 0, .null, .int 0, .int 0, .long 0, .int 0, .int 0, .int 0, .int 0, .null])), (q_1, .inl (e_2, 32, .inl (fun _ => 0))), (q_3, .inl (e_4, 32, .inr (.inr (.inr (.inr (fun _ => none)))))), (q_5, .inr (10, [.int 0, .ref z.1, .int 0]))] H := hP
  have hD : va_D A [(h0, .inr (6, [.null, .int 0, .ref q_1, .int 0, .int 0, .int 0, .ref q_3, .int 0, .null, .int 0, .int 0, .long 0, .int 0, .int 0, .int 0, .int 0, .null])), (q_1, .inl (e_2, 32, .inl (fun _ => 0))), (q_3, .inl (e_4, 32, .inr (.inr (.inr (.inr (fun _ => none)))))), (q_5, .inr (10, [.int 0, .ref z.1, .int 0]))] := hD
  refine va_putF (D := (dC, dI)) (ci := 6) (v := .ref q_5) (ty := .object "java/util/ArrayList") (C := R_Block) (T := F_Block) (N := 17) hx hb hT i_Block t_Block t_Block_ok n_Block hown hK hP hD hS 0 rfl rfl 16 (by decide) (hT _ k_30) (fun _ h9 => h9) rfl hin rfl (by decide +kernel) rfl rfl (Nat.le_of_ble_eq_true rfl) d_Block_init_29 (fun H locs hP hD hS => ?_)
  have hP : va_P (dC, dI) cl_all [(h0, .inr (6, [.null, .int 0, .ref q_1, .int 0, .int 0, .int 0, .ref q_3, .int 0, .null, .int 0, .int 0, .long 0, .int 0, .int 0, .int 0, .int 0, .ref q_5])), (q_1, .inl (e_2, 32, .inl (fun _ => 0))), (q_3, .inl (e_4, 32, .inr (.inr (.inr (.inr (fun _ => none)))))), (q_5, .inr (10, [.int 0, .ref z.1, .int 0]))] H := hP
  have hD : va_D A [(h0, .inr (6, [.null, .int 0, .ref q_1, .int 0, .int 0, .int 0, .ref q_3, .int 0, .null, .int 0, .int 0, .long 0, .int 0, .int 0, .int 0, .int 0, .ref q_5])), (q_1, .inl (e_2, 32, .inl (fun _ => 0))), (q_3, .inl (e_4, 32, .inr (.inr (.inr (.inr (fun _ => none)))))), (q_5, .inr (10, [.int 0, .ref z.1, .int 0]))] := hD
  have hP9 := hP.sub (ws' := [(h0, .inr (6, [.null, .int 0, .ref q_1, .int 0, .int 0, .int 0, .ref q_3, .int 0, .null, .int 0, .int 0, .long 0, .int 0, .int 0, .int 0, .int 0, .ref q_5])), (q_1, .inl (e_2, 32, .inl (fun _ => 0)))]) [0, 1] rfl
  have hD9 := hD.sub (ws' := [(h0, .inr (6, [.null, .int 0, .ref q_1, .int 0, .int 0, .int 0, .ref q_3, .int 0, .null, .int 0, .int 0, .long 0, .int 0, .int 0, .int 0, .int 0, .ref q_5])), (q_1, .inl (e_2, 32, .inl (fun _ => 0)))]) [0, 1] (by decide) rfl
  have hK9 := hK.sub (tys' := [(e_2, .byte)]) [0] rfl
  exact W.vret hx hb hr (fun t9 ht9 hW9 => ⟨⟨(), rfl, trivial, ⟨q_1, q_3, q_5, e_2, by rw [ht9]; exact hP9, va_K.moved hW9.alike hK9, hD9⟩⟩, hS.F ht9⟩) hS.2.2 d_Block_init_32
set_option maxHeartbeats 4000000 in
set_option maxRecDepth 100000 in
/-- Payment() -/
theorem c_Payment_init (l : Launch) (dC : Nat → ClassId) (dI : Nat → Nat → Nat) (z : zT) (sz : Nat) (h0 : Nat)  : Met l y_Payment_init w_Payment_init ({ frames := 1, cells := 4, slots := 80, locals := 12 }) (va_Pc [.ref h0] (fun U => U.heap.size = sz ∧ va_P (dC, dI) cl_all [(h0, .inr (7, [.null, .int 0, .int 0, .int 0, .int 0, .int 0, .int 0, .null, .null, .null, .null, .int 0, .int 0, .int 0, .int 0, .null]))] U.heap ∧ va_K (dC, dI) cl_all [] U ∧ va_D (fun _ => True) [(h0, .inr (7, [.null, .int 0, .int 0, .int 0, .int 0, .int 0, .int 0, .null, .null, .null, .null, .int 0, .int 0, .int 0, .int 0, .null]))] ∧ zz z (va_A [(h0, .inr (7, [.null, .int 0, .int 0, .int 0, .int 0, .int 0, .int 0, .null, .null, .null, .null, .int 0, .int 0, .int 0, .int 0, .null]))] sz) U U.heap)) (va_Qv (fun _ : Unit => True) (fun _ t => ∃ (q1 : Nat) (q2 : Nat) (q3 : Nat) (q4 : Nat), va_P (dC, dI) cl_all [(h0, .inr (7, [.null, .int 0, .int 0, .int 0, .int 0, .int 0, .int 0, .ref q1, .ref q2, .ref q3, .ref q4, .int 0, .int 0, .int 0, .int 0, .null]))] t.heap ∧ va_K (dC, dI) cl_all [] t ∧ va_D (va_A [(h0, .inr (7, [.null, .int 0, .int 0, .int 0, .int 0, .int 0, .int 0, .null, .null, .null, .null, .int 0, .int 0, .int 0, .int 0, .null]))] sz) [(h0, .inr (7, [.null, .int 0, .int 0, .int 0, .int 0, .int 0, .int 0, .ref q1, .ref q2, .ref q3, .ref q4, .int 0, .int 0, .int 0, .int 0, .null]))]) (va_A [(h0, .inr (7, [.null, .int 0, .int 0, .int 0, .int 0, .int 0, .int 0, .null, .null, .null, .null, .int 0, .int 0, .int 0, .int 0, .null]))] sz)) 4 80 (va_A [(h0, .inr (7, [.null, .int 0, .int 0, .int 0, .int 0, .int 0, .int 0, .null, .null, .null, .null, .int 0, .int 0, .int 0, .int 0, .null]))] sz) := by
  refine Met.ofW (cc := b_Payment_init) (maxL := 1) (ret := none) (by decide) rfl ?_
  intro p e s m args below meth c s₁ B hml hv
  obtain ⟨rfl, hsz, hP, hK, hD0, hZ⟩ := hv
  have hx := B.exec
  have hb := B.bytes
  have hr := B.returns
  have hT : ∀ w ∈ lw_all, w.before _ s = true := fun w h => atoms_spec (ws := w_Payment_init) B.pre w (List.mem_cons_of_mem _ h)
  have hown : s.vm.findClass R_Payment = some m.cls := findClass_of_methodNamed B.named
  have hlocks := B.notSynchronized
  have hin : meth.name = "<init>" := (name_of_methodNamed B.named B.method).1
  subst hsz
  have hD := hD0.self (sz := s.heap.size)
  generalize hAe : va_A [(h0, .inr (7, [.null, .int 0, .int 0, .int 0, .int 0, .int 0, .int 0, .null, .null, .null, .null, .int 0, .int 0, .int 0, .int 0, .null]))] s.heap.size = A at hD hZ ⊢
  have hA : ∀ q : Nat, s.heap.size ≤ q → A q := fun q h => by rw [← hAe]; exact Or.inr h
  have hS : va_S A s.heap s.heap [] := va_S.rf
  have hl := lv_entry ([.ref h0]) (n := 1) (Nat.le_of_ble_eq_true rfl)
  rw [lg_entry_eq]
  generalize (lg_sl ([.ref h0]) ++ List.replicate (1 - (lg_sl ([.ref h0])).length) Slot.unset).toArray = ls at hl ⊢
  have hl : lv_has ls 1 [(0, .ref h0)] := hl
  refine lv_aload_n hx hb d_Payment_init_0 rfl (lv_at hl 0 rfl) ?_
  refine W.objInit hx hb hown (hT _ k_31) (hT _ k_1) (hT _ k_2) rfl (by rw [hml]; exact hl.1) rfl d_Payment_init_1 (Nat.le_of_ble_eq_true rfl) (Nat.le_of_ble_eq_true rfl) ?_
  refine W.eq (g2 := F0 m 4 ls []) rfl ?_
  refine lv_aload_n hx hb d_Payment_init_4 rfl (lv_at hl 0 rfl) ?_
  refine lv_bipush (v := 8) hx hb d_Payment_init_5 (by decide) ?_
  refine va_newa (atype := .int) (a0 := (8, .inl (fun _ => 0))) hx hb (hT _ k_18) (ty := .int) rfl hK hP hD hS hA (fun _ => rfl) (by decide) (N' := 8) (by decide) (by decide) (Nat.le_of_ble_eq_true rfl) (Nat.le_of_ble_eq_true rfl) d_Payment_init_7 (fun q_1 e_2 H hK hP hD hS => ?_)
  have hK : va_K (dC, dI) cl_all [(e_2, .int)] s := hK
  have hP : va_P (dC, dI) cl_all [(h0, .inr (7, [.null, .int 0, .int 0, .int 0, .int 0, .int 0, .int 0, .null, .null, .null, .null, .int 0, .int 0, .int 0, .int 0, .null])), (q_1, .inl (e_2, 8, .inl (fun _ => 0)))] H := hP
  have hD : va_D A [(h0, .inr (7, [.null, .int 0, .int 0, .int 0, .int 0, .int 0, .int 0, .null, .null, .null, .null, .int 0, .int 0, .int 0, .int 0, .null])), (q_1, .inl (e_2, 8, .inl (fun _ => 0)))] := hD
  refine W.widen (k := 1) (n := 8) (Nat.le_of_ble_eq_true rfl) (Nat.le_of_ble_eq_true rfl) ?_
  refine va_putF (D := (dC, dI)) (ci := 7) (v := .ref q_1) (ty := .array (.int)) (C := R_Payment) (T := F_Payment) (N := 16) hx hb hT i_Payment t_Payment t_Payment_ok n_Payment hown hK hP hD hS 0 rfl rfl 7 (by decide) (hT _ k_32) (fun _ h9 => h9) rfl hin rfl (by decide +kernel) rfl rfl (Nat.le_of_ble_eq_true rfl) d_Payment_init_9 (fun H locs hP hD hS => ?_)
  have hP : va_P (dC, dI) cl_all [(h0, .inr (7, [.null, .int 0, .int 0, .int 0, .int 0, .int 0, .int 0, .ref q_1, .null, .null, .null, .int 0, .int 0, .int 0, .int 0, .null])), (q_1, .inl (e_2, 8, .inl (fun _ => 0)))] H := hP
  have hD : va_D A [(h0, .inr (7, [.null, .int 0, .int 0, .int 0, .int 0, .int 0, .int 0, .ref q_1, .null, .null, .null, .int 0, .int 0, .int 0, .int 0, .null])), (q_1, .inl (e_2, 8, .inl (fun _ => 0)))] := hD
  refine lv_aload_n hx hb d_Payment_init_12 rfl (lv_at hl 0 rfl) ?_
  refine lv_bipush (v := 8) hx hb d_Payment_init_13 (by decide) ?_
  refine va_newa (atype := .int) (a0 := (8, .inl (fun _ => 0))) hx hb (hT _ k_18) (ty := .int) rfl hK hP hD hS hA (fun _ => rfl) (by decide) (N' := 8) (by decide) (by decide) (Nat.le_of_ble_eq_true rfl) (Nat.le_of_ble_eq_true rfl) d_Payment_init_15 (fun q_3 e_4 H hK hP hD hS => ?_)
  have hK : va_K (dC, dI) cl_all [(e_2, .int), (e_4, .int)] s := hK
  have hP : va_P (dC, dI) cl_all [(h0, .inr (7, [.null, .int 0, .int 0, .int 0, .int 0, .int 0, .int 0, .ref q_1, .null, .null, .null, .int 0, .int 0, .int 0, .int 0, .null])), (q_1, .inl (e_2, 8, .inl (fun _ => 0))), (q_3, .inl (e_4, 8, .inl (fun _ => 0)))] H := hP
  have hD : va_D A [(h0, .inr (7, [.null, .int 0, .int 0, .int 0, .int 0, .int 0, .int 0, .ref q_1, .null, .null, .null, .int 0, .int 0, .int 0, .int 0, .null])), (q_1, .inl (e_2, 8, .inl (fun _ => 0))), (q_3, .inl (e_4, 8, .inl (fun _ => 0)))] := hD
  refine W.widen (k := 2) (n := 16) (Nat.le_of_ble_eq_true rfl) (Nat.le_of_ble_eq_true rfl) ?_
  refine va_putF (D := (dC, dI)) (ci := 7) (v := .ref q_3) (ty := .array (.int)) (C := R_Payment) (T := F_Payment) (N := 16) hx hb hT i_Payment t_Payment t_Payment_ok n_Payment hown hK hP hD hS 0 rfl rfl 8 (by decide) (hT _ k_33) (fun _ h9 => h9) rfl hin rfl (by decide +kernel) rfl rfl (Nat.le_of_ble_eq_true rfl) d_Payment_init_17 (fun H locs hP hD hS => ?_)
  have hP : va_P (dC, dI) cl_all [(h0, .inr (7, [.null, .int 0, .int 0, .int 0, .int 0, .int 0, .int 0, .ref q_1, .ref q_3, .null, .null, .int 0, .int 0, .int 0, .int 0, .null])), (q_1, .inl (e_2, 8, .inl (fun _ => 0))), (q_3, .inl (e_4, 8, .inl (fun _ => 0)))] H := hP
  have hD : va_D A [(h0, .inr (7, [.null, .int 0, .int 0, .int 0, .int 0, .int 0, .int 0, .ref q_1, .ref q_3, .null, .null, .int 0, .int 0, .int 0, .int 0, .null])), (q_1, .inl (e_2, 8, .inl (fun _ => 0))), (q_3, .inl (e_4, 8, .inl (fun _ => 0)))] := hD
  refine lv_aload_n hx hb d_Payment_init_20 rfl (lv_at hl 0 rfl) ?_
  refine lv_bipush (v := 32) hx hb d_Payment_init_21 (by decide) ?_
  refine va_newa (atype := .byte) (a0 := (32, .inl (fun _ => 0))) hx hb (hT _ k_15) (ty := .byte) rfl hK hP hD hS hA (fun _ => rfl) (by decide) (N' := 32) (by decide) (by decide) (Nat.le_of_ble_eq_true rfl) (Nat.le_of_ble_eq_true rfl) d_Payment_init_23 (fun q_5 e_6 H hK hP hD hS => ?_)
  have hK : va_K (dC, dI) cl_all [(e_2, .int), (e_4, .int), (e_6, .byte)] s := hK
  have hP : va_P (dC, dI) cl_all [(h0, .inr (7, [.null, .int 0, .int 0, .int 0, .int 0, .int 0, .int 0, .ref q_1, .ref q_3, .null, .null, .int 0, .int 0, .int 0, .int 0, .null])), (q_1, .inl (e_2, 8, .inl (fun _ => 0))), (q_3, .inl (e_4, 8, .inl (fun _ => 0))), (q_5, .inl (e_6, 32, .inl (fun _ => 0)))] H := hP
  have hD : va_D A [(h0, .inr (7, [.null, .int 0, .int 0, .int 0, .int 0, .int 0, .int 0, .ref q_1, .ref q_3, .null, .null, .int 0, .int 0, .int 0, .int 0, .null])), (q_1, .inl (e_2, 8, .inl (fun _ => 0))), (q_3, .inl (e_4, 8, .inl (fun _ => 0))), (q_5, .inl (e_6, 32, .inl (fun _ => 0)))] := hD
  refine W.widen (k := 3) (n := 48) (Nat.le_of_ble_eq_true rfl) (Nat.le_of_ble_eq_true rfl) ?_
  refine va_putF (D := (dC, dI)) (ci := 7) (v := .ref q_5) (ty := .array (.byte)) (C := R_Payment) (T := F_Payment) (N := 16) hx hb hT i_Payment t_Payment t_Payment_ok n_Payment hown hK hP hD hS 0 rfl rfl 9 (by decide) (hT _ k_34) (fun _ h9 => h9) rfl hin rfl (by decide +kernel) rfl rfl (Nat.le_of_ble_eq_true rfl) d_Payment_init_25 (fun H locs hP hD hS => ?_)
  have hP : va_P (dC, dI) cl_all [(h0, .inr (7, [.null, .int 0, .int 0, .int 0, .int 0, .int 0, .int 0, .ref q_1, .ref q_3, .ref q_5, .null, .int 0, .int 0, .int 0, .int 0, .null])), (q_1, .inl (e_2, 8, .inl (fun _ => 0))), (q_3, .inl (e_4, 8, .inl (fun _ => 0))), (q_5, .inl (e_6, 32, .inl (fun _ => 0)))] H := hP
  have hD : va_D A [(h0, .inr (7, [.null, .int 0, .int 0, .int 0, .int 0, .int 0, .int 0, .ref q_1, .ref q_3, .ref q_5, .null, .int 0, .int 0, .int 0, .int 0, .null])), (q_1, .inl (e_2, 8, .inl (fun _ => 0))), (q_3, .inl (e_4, 8, .inl (fun _ => 0))), (q_5, .inl (e_6, 32, .inl (fun _ => 0)))] := hD
  refine lv_aload_n hx hb d_Payment_init_28 rfl (lv_at hl 0 rfl) ?_
  refine lv_bipush (v := 32) hx hb d_Payment_init_29 (by decide) ?_
  refine va_newa (atype := .byte) (a0 := (32, .inl (fun _ => 0))) hx hb (hT _ k_15) (ty := .byte) rfl hK hP hD hS hA (fun _ => rfl) (by decide) (N' := 32) (by decide) (by decide) (Nat.le_of_ble_eq_true rfl) (Nat.le_of_ble_eq_true rfl) d_Payment_init_31 (fun q_7 e_8 H hK hP hD hS => ?_)
  have hK : va_K (dC, dI) cl_all [(e_2, .int), (e_4, .int), (e_6, .byte), (e_8, .byte)] s := hK
  have hP : va_P (dC, dI) cl_all [(h0, .inr (7, [.null, .int 0, .int 0, .int 0, .int 0, .int 0, .int 0, .ref q_1, .ref q_3, .ref q_5, .null, .int 0, .int 0, .int 0, .int 0, .null])), (q_1, .inl (e_2, 8, .inl (fun _ => 0))), (q_3, .inl (e_4, 8, .inl (fun _ => 0))), (q_5, .inl (e_6, 32, .inl (fun _ => 0))), (q_7, .inl (e_8, 32, .inl (fun _ => 0)))] H := hP
  have hD : va_D A [(h0, .inr (7, [.null, .int 0, .int 0, .int 0, .int 0, .int 0, .int 0, .ref q_1, .ref q_3, .ref q_5, .null, .int 0, .int 0, .int 0, .int 0, .null])), (q_1, .inl (e_2, 8, .inl (fun _ => 0))), (q_3, .inl (e_4, 8, .inl (fun _ => 0))), (q_5, .inl (e_6, 32, .inl (fun _ => 0))), (q_7, .inl (e_8, 32, .inl (fun _ => 0)))] := hD
  refine W.widen (k := 4) (n := 80) (Nat.le_of_ble_eq_true rfl) (Nat.le_of_ble_eq_true rfl) ?_
  refine va_putF (D := (dC, dI)) (ci := 7) (v := .ref q_7) (ty := .array (.byte)) (C := R_Payment) (T := F_Payment) (N := 16) hx hb hT i_Payment t_Payment t_Payment_ok n_Payment hown hK hP hD hS 0 rfl rfl 10 (by decide) (hT _ k_35) (fun _ h9 => h9) rfl hin rfl (by decide +kernel) rfl rfl (Nat.le_of_ble_eq_true rfl) d_Payment_init_33 (fun H locs hP hD hS => ?_)
  have hP : va_P (dC, dI) cl_all [(h0, .inr (7, [.null, .int 0, .int 0, .int 0, .int 0, .int 0, .int 0, .ref q_1, .ref q_3, .ref q_5, .ref q_7, .int 0, .int 0, .int 0, .int 0, .null])), (q_1, .inl (e_2, 8, .inl (fun _ => 0))), (q_3, .inl (e_4, 8, .inl (fun _ => 0))), (q_5, .inl (e_6, 32, .inl (fun _ => 0))), (q_7, .inl (e_8, 32, .inl (fun _ => 0)))] H := hP
  have hD : va_D A [(h0, .inr (7, [.null, .int 0, .int 0, .int 0, .int 0, .int 0, .int 0, .ref q_1, .ref q_3, .ref q_5, .ref q_7, .int 0, .int 0, .int 0, .int 0, .null])), (q_1, .inl (e_2, 8, .inl (fun _ => 0))), (q_3, .inl (e_4, 8, .inl (fun _ => 0))), (q_5, .inl (e_6, 32, .inl (fun _ => 0))), (q_7, .inl (e_8, 32, .inl (fun _ => 0)))] := hD
  have hP9 := hP.sub (ws' := [(h0, .inr (7, [.null, .int 0, .int 0, .int 0, .int 0, .int 0, .int 0, .ref q_1, .ref q_3, .ref q_5, .ref q_7, .int 0, .int 0, .int 0, .int 0, .null]))]) [0] rfl
  have hD9 := hD.sub (ws' := [(h0, .inr (7, [.null, .int 0, .int 0, .int 0, .int 0, .int 0, .int 0, .ref q_1, .ref q_3, .ref q_5, .ref q_7, .int 0, .int 0, .int 0, .int 0, .null]))]) [0] (by decide) rfl
  have hK9 := hK.sub (tys' := []) [] rfl
  exact W.vret hx hb hr (fun t9 ht9 hW9 => ⟨⟨(), rfl, trivial, ⟨q_1, q_3, q_5, q_7, by rw [ht9]; exact hP9, va_K.moved hW9.alike hK9, hD9⟩⟩, hS.F ht9⟩) hS.2.2 d_Payment_init_36
set_option maxHeartbeats 4000000 in
set_option maxRecDepth 100000 in
/-- Coins(): an empty list -/
theorem c_Coins_init (l : Launch) (dC : Nat → ClassId) (dI : Nat → Nat → Nat) (z : zT) (sz : Nat) (h0 : Nat)  : Met l y_Coins_init w_Coins_init ({ frames := 4, cells := 1, slots := 3, locals := 72 }) (va_Pc [.ref h0] (fun U => U.heap.size = sz ∧ va_P (dC, dI) cl_all [(h0, .inr (8, [.null]))] U.heap ∧ va_K (dC, dI) cl_all [] U ∧ va_D (fun _ => True) [(h0, .inr (8, [.null]))] ∧ zz z (va_A [(h0, .inr (8, [.null]))] sz) U U.heap)) (va_Qv (fun _ : Unit => True) (fun _ t => ∃ (q1 : Nat), va_P (dC, dI) cl_all [(h0, .inr (8, [.ref q1])), (q1, .inr (10, [.int 0, .ref z.1, .int 0]))] t.heap ∧ va_K (dC, dI) cl_all [] t ∧ va_D (va_A [(h0, .inr (8, [.null]))] sz) [(h0, .inr (8, [.ref q1])), (q1, .inr (10, [.int 0, .ref z.1, .int 0]))]) (va_A [(h0, .inr (8, [.null]))] sz)) 1 3 (va_A [(h0, .inr (8, [.null]))] sz) := by
  refine Met.ofW (cc := b_Coins_init) (maxL := 1) (ret := none) (by decide) rfl ?_
  intro p e s m args below meth c s₁ B hml hv
  obtain ⟨rfl, hsz, hP, hK, hD0, hZ⟩ := hv
  have hx := B.exec
  have hb := B.bytes
  have hr := B.returns
  have hT : ∀ w ∈ lw_all, w.before _ s = true := fun w h => atoms_spec (ws := w_Coins_init) B.pre w (List.mem_cons_of_mem _ h)
  have hown : s.vm.findClass R_Coins = some m.cls := findClass_of_methodNamed B.named
  have hlocks := B.notSynchronized
  have hin : meth.name = "<init>" := (name_of_methodNamed B.named B.method).1
  subst hsz
  have hD := hD0.self (sz := s.heap.size)
  generalize hAe : va_A [(h0, .inr (8, [.null]))] s.heap.size = A at hD hZ ⊢
  have hA : ∀ q : Nat, s.heap.size ≤ q → A q := fun q h => by rw [← hAe]; exact Or.inr h
  have hS : va_S A s.heap s.heap [] := va_S.rf
  have hl := lv_entry ([.ref h0]) (n := 1) (Nat.le_of_ble_eq_true rfl)
  rw [lg_entry_eq]
  generalize (lg_sl ([.ref h0]) ++ List.replicate (1 - (lg_sl ([.ref h0])).length) Slot.unset).toArray = ls at hl ⊢
  have hl : lv_has ls 1 [(0, .ref h0)] := hl
  refine lv_aload_n hx hb d_Coins_init_0 rfl (lv_at hl 0 rfl) ?_
  have hPc := hP.sub (ws' := []) [] rfl
  have hDc := hD.sub (ws' := []) [] (by decide) rfl
  have hKc := hK.sub (tys' := []) [] rfl
  have hFc := va_free (wc := []) hD hS hA [] rfl
  refine va_callv (va_runIN (As := []) (rest := []) ⟨hx, hb, hml, hown, hT⟩ (c_View_init l dC dI z s.heap.size h0) ⟨va_cnB (host := "ChainLedger") 0 hT g_View_init rfl rfl rfl (zn_k_36 (zz_N hZ)) (hT _ k_37) (by decide +kernel) ⟨Nat.le_of_ble_eq_true rfl, Nat.le_of_ble_eq_true rfl⟩, rfl, (hT _ k_38)⟩ (zz_pre hPc hKc hDc hZ hS hFc) rfl rfl hl.1 rfl (lv_room (Nat.le_of_ble_eq_true rfl)) d_Coins_init_1 ⟨Nat.le_of_ble_eq_true rfl, Nat.le_of_ble_eq_true rfl⟩) hS (fun q _ h => hFc q h) hFc (fun u9 t9 H1 locs ht9 hvm9 hw9 hB9 hz19 hk19 hS => ?_)
  have hP1 : va_P (dC, dI) cl_all [] H1 := zz_P0
  have hD1 : va_D (va_A [] s.heap.size) [] := zz_D0
  obtain ⟨hP, hD⟩ := va_join (wr := [(h0, .inr (8, [.null]))]) (w1 := []) hP hD [] [0] rfl rfl (by decide) (by decide) hk19 hFc hP1 hD1
  generalize H1 = H at hP hS ⊢
  have hP : va_P (dC, dI) cl_all [(h0, .inr (8, [.null]))] H := hP
  have hD : va_D A [(h0, .inr (8, [.null]))] := hD
  refine lv_aload_n hx hb d_Coins_init_4 rfl (lv_at hl 0 rfl) ?_
  refine va_new (ci := 10) (fs := [.int 0, .null, .int 0]) (C := R_AL) (T := F_AL) (N := 3) hx hb hT i_AL t_AL t_AL_ok hown (hT _ k_39) (hT _ k_26) (hT _ k_27) hK hP hD hS hA rfl (fun j hj => df_AL j hj) (Nat.le_of_ble_eq_true rfl) (Nat.le_of_ble_eq_true rfl) d_Coins_init_5 (fun q_2 H hP hD hS => ?_)
  have hP : va_P (dC, dI) cl_all [(h0, .inr (8, [.null])), (q_2, .inr (10, [.int 0, .null, .int 0]))] H := hP
  have hD : va_D A [(h0, .inr (8, [.null])), (q_2, .inr (10, [.int 0, .null, .int 0]))] := hD
  refine W.widen (k := 1) (n := 3) (Nat.le_of_ble_eq_true rfl) (Nat.le_of_ble_eq_true rfl) ?_
  refine lv_dup hx hb d_Coins_init_8 rfl ?_
  have hPc := hP.sub (ws' := [(q_2, .inr (10, [.int 0, .null, .int 0]))]) [1] rfl
  have hDc := hD.sub (ws' := [(q_2, .inr (10, [.int 0, .null, .int 0]))]) [1] (by decide) rfl
  have hKc := hK.sub (tys' := []) [] rfl
  have hFc := va_free (wc := [(q_2, .inr (10, [.int 0, .null, .int 0]))]) hD hS hA [1] rfl
  refine va_callv (va_runI (As := []) (rest := [.ref q_2, .ref h0]) ⟨hx, hb, hml, hown, hT⟩ (c_AL_init l dC dI z H.size q_2) (cwI 0 hT g_AL_init rfl rfl rfl (hT _ k_27) (hT _ k_40) (hT _ k_29) rfl (by decide +kernel) ⟨Nat.le_of_ble_eq_true rfl, Nat.le_of_ble_eq_true rfl⟩) (zz_pre hPc hKc hDc hZ hS hFc) rfl rfl hl.1 rfl (lv_room (Nat.le_of_ble_eq_true rfl)) d_Coins_init_9 ⟨Nat.le_of_ble_eq_true rfl, Nat.le_of_ble_eq_true rfl⟩) hS (fun q _ h => hFc q h) hFc (fun u9 t9 H1 locs ht9 hvm9 hw9 hB9 hz19 hk19 hS => ?_)
  obtain ⟨hP1, hK1, hD1⟩ := hB9
  rw [ht9] at hP1
  obtain ⟨hP, hD⟩ := va_join (wr := [(h0, .inr (8, [.null]))]) (w1 := [(q_2, .inr (10, [.int 0, .ref z.1, .int 0]))]) hP hD [1] [0] rfl rfl (by decide) (by decide) hk19 hFc hP1 hD1
  generalize H1 = H at hP hS ⊢
  have hP : va_P (dC, dI) cl_all [(h0, .inr (8, [.null])), (q_2, .inr (10, [.int 0, .ref z.1, .int 0]))] H := hP
  have hD : va_D A [(h0, .inr (8, [.null])), (q_2, .inr (10, [.int 0, .ref z.1, .int 0]))] := hD
  refine va_putF (D := (dC, dI)) (ci := 8) (v := .ref q_2) (ty := .object "java/util/ArrayList") (C := R_Coins) (T := F_Coins) (N := 1) hx hb hT i_Coins t_Coins t_Coins_ok n_Coins hown hK hP hD hS 0 rfl rfl 0 (by decide) (hT _ k_41) (fun _ h9 => h9) rfl hin rfl (by decide +kernel) rfl rfl (Nat.le_of_ble_eq_true rfl) d_Coins_init_12 (fun H locs hP hD hS => ?_)
  have hP : va_P (dC, dI) cl_all [(h0, .inr (8, [.ref q_2])), (q_2, .inr (10, [.int 0, .ref z.1, .int 0]))] H := hP
  have hD : va_D A [(h0, .inr (8, [.ref q_2])), (q_2, .inr (10, [.int 0, .ref z.1, .int 0]))] := hD
  have hP9 := hP.sub (ws' := [(h0, .inr (8, [.ref q_2])), (q_2, .inr (10, [.int 0, .ref z.1, .int 0]))]) [0, 1] rfl
  have hD9 := hD.sub (ws' := [(h0, .inr (8, [.ref q_2])), (q_2, .inr (10, [.int 0, .ref z.1, .int 0]))]) [0, 1] (by decide) rfl
  have hK9 := hK.sub (tys' := []) [] rfl
  exact W.vret hx hb hr (fun t9 ht9 hW9 => ⟨⟨(), rfl, trivial, ⟨q_2, by rw [ht9]; exact hP9, va_K.moved hW9.alike hK9, hD9⟩⟩, hS.F ht9⟩) hS.2.2 d_Coins_init_15
set_option maxHeartbeats 4000000 in
set_option maxRecDepth 100000 in
/-- Machine(): nobody looks at it before a payment comes -/
theorem c_Machine_init (l : Launch) (dC : Nat → ClassId) (dI : Nat → Nat → Nat) (z : zT) (sz : Nat) (h0 h1 : Nat)  : Met l y_Machine_init w_Machine_init ({ frames := 1, cells := 30, slots := 2224, locals := 12 }) (va_Pc [.ref h0, .ref h1] (fun U => U.heap.size = sz ∧ va_P (dC, dI) cl_all [(h0, .inr (4, [.null, .null, .null, .int 0, .null, .int 0, .int 0, .null, .null, .null, .int 0]))] U.heap ∧ va_K (dC, dI) cl_all [] U ∧ va_D (fun _ => True) [(h0, .inr (4, [.null, .null, .null, .int 0, .null, .int 0, .int 0, .null, .null, .null, .int 0]))] ∧ zz z (va_A [(h0, .inr (4, [.null, .null, .null, .int 0, .null, .int 0, .int 0, .null, .null, .null, .int 0]))] sz) U U.heap)) (va_Qv (fun _ : Unit => True) (fun _ t => True) (va_A [(h0, .inr (4, [.null, .null, .null, .int 0, .null, .int 0, .int 0, .null, .null, .null, .int 0]))] sz)) 30 2224 (va_A [(h0, .inr (4, [.null, .null, .null, .int 0, .null, .int 0, .int 0, .null, .null, .null, .int 0]))] sz) := by
  refine Met.ofW (cc := b_Machine_init) (maxL := 2) (ret := none) (by decide) rfl ?_
  intro p e s m args below meth c s₁ B hml hv
  obtain ⟨rfl, hsz, hP, hK, hD0, hZ⟩ := hv
  have hx := B.exec
  have hb := B.bytes
  have hr := B.returns
  have hT : ∀ w ∈ lw_all, w.before _ s = true := fun w h => atoms_spec (ws := w_Machine_init) B.pre w (List.mem_cons_of_mem _ h)
  have hown : s.vm.findClass R_Machine = some m.cls := findClass_of_methodNamed B.named
  have hlocks := B.notSynchronized
  have hin : meth.name = "<init>" := (name_of_methodNamed B.named B.method).1
  subst hsz
  have hD := hD0.self (sz := s.heap.size)
  generalize hAe : va_A [(h0, .inr (4, [.null, .null, .null, .int 0, .null, .int 0, .int 0, .null, .null, .null, .int 0]))] s.heap.size = A at hD hZ ⊢
  have hA : ∀ q : Nat, s.heap.size ≤ q → A q := fun q h => by rw [← hAe]; exact Or.inr h
  have hS : va_S A s.heap s.heap [] := va_S.rf
  have hl := lv_entry ([.ref h0, .ref h1]) (n := 2) (Nat.le_of_ble_eq_true rfl)
  rw [lg_entry_eq]
  generalize (lg_sl ([.ref h0, .ref h1]) ++ List.replicate (2 - (lg_sl ([.ref h0, .ref h1])).length) Slot.unset).toArray = ls at hl ⊢
  have hl : lv_has ls 2 [(0, .ref h0), (1, .ref h1)] := hl
  refine lv_aload_n hx hb d_Machine_init_0 rfl (lv_at hl 0 rfl) ?_
  refine W.objInit hx hb hown (hT _ k_42) (hT _ k_1) (hT _ k_2) rfl (by rw [hml]; exact hl.1) rfl d_Machine_init_1 (Nat.le_of_ble_eq_true rfl) (Nat.le_of_ble_eq_true rfl) ?_
  refine W.eq (g2 := F0 m 4 ls []) rfl ?_
  refine lv_aload_n hx hb d_Machine_init_4 rfl (lv_at hl 0 rfl) ?_
  refine lv_bipush (v := 24) hx hb d_Machine_init_5 (by decide) ?_
  refine lv_bipush (v := 80) hx hb d_Machine_init_7 (by decide) ?_
  refine zz_multi hx hb hown (hT _ k_43) (zz_N hZ).2.2.2.2 (hT _ k_15) hP hS hA (Nat.le_of_ble_eq_true rfl) (Nat.le_of_ble_eq_true rfl) d_Machine_init_9 (fun q_1 H locs hP hS => ?_)
  refine W.widen (k := 25) (n := 1944) (Nat.le_of_ble_eq_true rfl) (Nat.le_of_ble_eq_true rfl) ?_
  refine va_putF (D := (dC, dI)) (ci := 4) (v := .ref q_1) (ty := .array (.array (.byte))) (C := R_Machine) (T := F_Machine) (N := 11) hx hb hT i_Machine t_Machine t_Machine_ok n_Machine hown hK hP hD hS 0 rfl rfl 1 (by decide) (hT _ k_44) (fun _ h9 => h9) rfl hin rfl (by decide +kernel) rfl rfl (Nat.le_of_ble_eq_true rfl) d_Machine_init_13 (fun H locs hP hD hS => ?_)
  have hP : va_P (dC, dI) cl_all [(h0, .inr (4, [.null, .ref q_1, .null, .int 0, .null, .int 0, .int 0, .null, .null, .null, .int 0]))] H := hP
  have hD : va_D A [(h0, .inr (4, [.null, .ref q_1, .null, .int 0, .null, .int 0, .int 0, .null, .null, .null, .int 0]))] := hD
  refine lv_aload_n hx hb d_Machine_init_16 rfl (lv_at hl 0 rfl) ?_
  refine lv_bipush (v := 24) hx hb d_Machine_init_17 (by decide) ?_
  refine va_newa (atype := .int) (a0 := (24, .inl (fun _ => 0))) hx hb (hT _ k_18) (ty := .int) rfl hK hP hD hS hA (fun _ => rfl) (by decide) (N' := 24) (by decide) (by decide) (Nat.le_of_ble_eq_true rfl) (Nat.le_of_ble_eq_true rfl) d_Machine_init_19 (fun q_2 e_3 H hK hP hD hS => ?_)
  have hK : va_K (dC, dI) cl_all [(e_3, .int)] s := hK
  have hP : va_P (dC, dI) cl_all [(h0, .inr (4, [.null, .ref q_1, .null, .int 0, .null, .int 0, .int 0, .null, .null, .null, .int 0])), (q_2, .inl (e_3, 24, .inl (fun _ => 0)))] H := hP
  have hD : va_D A [(h0, .inr (4, [.null, .ref q_1, .null, .int 0, .null, .int 0, .int 0, .null, .null, .null, .int 0])), (q_2, .inl (e_3, 24, .inl (fun _ => 0)))] := hD
  refine W.widen (k := 26) (n := 1968) (Nat.le_of_ble_eq_true rfl) (Nat.le_of_ble_eq_true rfl) ?_
  refine va_putF (D := (dC, dI)) (ci := 4) (v := .ref q_2) (ty := .array (.int)) (C := R_Machine) (T := F_Machine) (N := 11) hx hb hT i_Machine t_Machine t_Machine_ok n_Machine hown hK hP hD hS 0 rfl rfl 2 (by decide) (hT _ k_45) (fun _ h9 => h9) rfl hin rfl (by decide +kernel) rfl rfl (Nat.le_of_ble_eq_true rfl) d_Machine_init_21 (fun H locs hP hD hS => ?_)
  have hP : va_P (dC, dI) cl_all [(h0, .inr (4, [.null, .ref q_1, .ref q_2, .int 0, .null, .int 0, .int 0, .null, .null, .null, .int 0])), (q_2, .inl (e_3, 24, .inl (fun _ => 0)))] H := hP
  have hD : va_D A [(h0, .inr (4, [.null, .ref q_1, .ref q_2, .int 0, .null, .int 0, .int 0, .null, .null, .null, .int 0])), (q_2, .inl (e_3, 24, .inl (fun _ => 0)))] := hD
  refine lv_aload_n hx hb d_Machine_init_24 rfl (lv_at hl 0 rfl) ?_
  refine lv_bipush (v := 80) hx hb d_Machine_init_25 (by decide) ?_
  refine va_newa (atype := .boolean) (a0 := (80, .inl (fun _ => 0))) hx hb (hT _ k_46) (ty := .boolean) rfl hK hP hD hS hA (fun _ => rfl) (by decide) (N' := 80) (by decide) (by decide) (Nat.le_of_ble_eq_true rfl) (Nat.le_of_ble_eq_true rfl) d_Machine_init_27 (fun q_4 e_5 H hK hP hD hS => ?_)
  have hK : va_K (dC, dI) cl_all [(e_3, .int), (e_5, .boolean)] s := hK
  have hP : va_P (dC, dI) cl_all [(h0, .inr (4, [.null, .ref q_1, .ref q_2, .int 0, .null, .int 0, .int 0, .null, .null, .null, .int 0])), (q_2, .inl (e_3, 24, .inl (fun _ => 0))), (q_4, .inl (e_5, 80, .inl (fun _ => 0)))] H := hP
  have hD : va_D A [(h0, .inr (4, [.null, .ref q_1, .ref q_2, .int 0, .null, .int 0, .int 0, .null, .null, .null, .int 0])), (q_2, .inl (e_3, 24, .inl (fun _ => 0))), (q_4, .inl (e_5, 80, .inl (fun _ => 0)))] := hD
  refine W.widen (k := 27) (n := 2048) (Nat.le_of_ble_eq_true rfl) (Nat.le_of_ble_eq_true rfl) ?_
  refine va_putF (D := (dC, dI)) (ci := 4) (v := .ref q_4) (ty := .array (.boolean)) (C := R_Machine) (T := F_Machine) (N := 11) hx hb hT i_Machine t_Machine t_Machine_ok n_Machine hown hK hP hD hS 0 rfl rfl 4 (by decide) (hT _ k_47) (fun _ h9 => h9) rfl hin rfl (by decide +kernel) rfl rfl (Nat.le_of_ble_eq_true rfl) d_Machine_init_29 (fun H locs hP hD hS => ?_)
  have hP : va_P (dC, dI) cl_all [(h0, .inr (4, [.null, .ref q_1, .ref q_2, .int 0, .ref q_4, .int 0, .int 0, .null, .null, .null, .int 0])), (q_2, .inl (e_3, 24, .inl (fun _ => 0))), (q_4, .inl (e_5, 80, .inl (fun _ => 0)))] H := hP
  have hD : va_D A [(h0, .inr (4, [.null, .ref q_1, .ref q_2, .int 0, .ref q_4, .int 0, .int 0, .null, .null, .null, .int 0])), (q_2, .inl (e_3, 24, .inl (fun _ => 0))), (q_4, .inl (e_5, 80, .inl (fun _ => 0)))] := hD
  refine lv_aload_n hx hb d_Machine_init_32 rfl (lv_at hl 0 rfl) ?_
  refine lv_bipush (v := 112) hx hb d_Machine_init_33 (by decide) ?_
  refine va_newa (atype := .byte) (a0 := (112, .inl (fun _ => 0))) hx hb (hT _ k_15) (ty := .byte) rfl hK hP hD hS hA (fun _ => rfl) (by decide) (N' := 112) (by decide) (by decide) (Nat.le_of_ble_eq_true rfl) (Nat.le_of_ble_eq_true rfl) d_Machine_init_35 (fun q_6 e_7 H hK hP hD hS => ?_)
  have hK : va_K (dC, dI) cl_all [(e_3, .int), (e_5, .boolean), (e_7, .byte)] s := hK
  have hP : va_P (dC, dI) cl_all [(h0, .inr (4, [.null, .ref q_1, .ref q_2, .int 0, .ref q_4, .int 0, .int 0, .null, .null, .null, .int 0])), (q_2, .inl (e_3, 24, .inl (fun _ => 0))), (q_4, .inl (e_5, 80, .inl (fun _ => 0))), (q_6, .inl (e_7, 112, .inl (fun _ => 0)))] H := hP
  have hD : va_D A [(h0, .inr (4, [.null, .ref q_1, .ref q_2, .int 0, .ref q_4, .int 0, .int 0, .null, .null, .null, .int 0])), (q_2, .inl (e_3, 24, .inl (fun _ => 0))), (q_4, .inl (e_5, 80, .inl (fun _ => 0))), (q_6, .inl (e_7, 112, .inl (fun _ => 0)))] := hD
  refine W.widen (k := 28) (n := 2160) (Nat.le_of_ble_eq_true rfl) (Nat.le_of_ble_eq_true rfl) ?_
  refine va_putF (D := (dC, dI)) (ci := 4) (v := .ref q_6) (ty := .array (.byte)) (C := R_Machine) (T := F_Machine) (N := 11) hx hb hT i_Machine t_Machine t_Machine_ok n_Machine hown hK hP hD hS 0 rfl rfl 7 (by decide) (hT _ k_48) (fun _ h9 => h9) rfl hin rfl (by decide +kernel) rfl rfl (Nat.le_of_ble_eq_true rfl) d_Machine_init_37 (fun H locs hP hD hS => ?_)
  have hP : va_P (dC, dI) cl_all [(h0, .inr (4, [.null, .ref q_1, .ref q_2, .int 0, .ref q_4, .int 0, .int 0, .ref q_6, .null, .null, .int 0])), (q_2, .inl (e_3, 24, .inl (fun _ => 0))), (q_4, .inl (e_5, 80, .inl (fun _ => 0))), (q_6, .inl (e_7, 112, .inl (fun _ => 0)))] H := hP
  have hD : va_D A [(h0, .inr (4, [.null, .ref q_1, .ref q_2, .int 0, .ref q_4, .int 0, .int 0, .ref q_6, .null, .null, .int 0])), (q_2, .inl (e_3, 24, .inl (fun _ => 0))), (q_4, .inl (e_5, 80, .inl (fun _ => 0))), (q_6, .inl (e_7, 112, .inl (fun _ => 0)))] := hD
  refine lv_aload_n hx hb d_Machine_init_40 rfl (lv_at hl 0 rfl) ?_
  refine lv_bipush (v := 32) hx hb d_Machine_init_41 (by decide) ?_
  refine va_newa (atype := .byte) (a0 := (32, .inl (fun _ => 0))) hx hb (hT _ k_15) (ty := .byte) rfl hK hP hD hS hA (fun _ => rfl) (by decide) (N' := 32) (by decide) (by decide) (Nat.le_of_ble_eq_true rfl) (Nat.le_of_ble_eq_true rfl) d_Machine_init_43 (fun q_8 e_9 H hK hP hD hS => ?_)
  have hK : va_K (dC, dI) cl_all [(e_3, .int), (e_5, .boolean), (e_7, .byte), (e_9, .byte)] s := hK
  have hP : va_P (dC, dI) cl_all [(h0, .inr (4, [.null, .ref q_1, .ref q_2, .int 0, .ref q_4, .int 0, .int 0, .ref q_6, .null, .null, .int 0])), (q_2, .inl (e_3, 24, .inl (fun _ => 0))), (q_4, .inl (e_5, 80, .inl (fun _ => 0))), (q_6, .inl (e_7, 112, .inl (fun _ => 0))), (q_8, .inl (e_9, 32, .inl (fun _ => 0)))] H := hP
  have hD : va_D A [(h0, .inr (4, [.null, .ref q_1, .ref q_2, .int 0, .ref q_4, .int 0, .int 0, .ref q_6, .null, .null, .int 0])), (q_2, .inl (e_3, 24, .inl (fun _ => 0))), (q_4, .inl (e_5, 80, .inl (fun _ => 0))), (q_6, .inl (e_7, 112, .inl (fun _ => 0))), (q_8, .inl (e_9, 32, .inl (fun _ => 0)))] := hD
  refine W.widen (k := 29) (n := 2192) (Nat.le_of_ble_eq_true rfl) (Nat.le_of_ble_eq_true rfl) ?_
  refine va_putF (D := (dC, dI)) (ci := 4) (v := .ref q_8) (ty := .array (.byte)) (C := R_Machine) (T := F_Machine) (N := 11) hx hb hT i_Machine t_Machine t_Machine_ok n_Machine hown hK hP hD hS 0 rfl rfl 8 (by decide) (hT _ k_49) (fun _ h9 => h9) rfl hin rfl (by decide +kernel) rfl rfl (Nat.le_of_ble_eq_true rfl) d_Machine_init_45 (fun H locs hP hD hS => ?_)
  have hP : va_P (dC, dI) cl_all [(h0, .inr (4, [.null, .ref q_1, .ref q_2, .int 0, .ref q_4, .int 0, .int 0, .ref q_6, .ref q_8, .null, .int 0])), (q_2, .inl (e_3, 24, .inl (fun _ => 0))), (q_4, .inl (e_5, 80, .inl (fun _ => 0))), (q_6, .inl (e_7, 112, .inl (fun _ => 0))), (q_8, .inl (e_9, 32, .inl (fun _ => 0)))] H := hP
  have hD : va_D A [(h0, .inr (4, [.null, .ref q_1, .ref q_2, .int 0, .ref q_4, .int 0, .int 0, .ref q_6, .ref q_8, .null, .int 0])), (q_2, .inl (e_3, 24, .inl (fun _ => 0))), (q_4, .inl (e_5, 80, .inl (fun _ => 0))), (q_6, .inl (e_7, 112, .inl (fun _ => 0))), (q_8, .inl (e_9, 32, .inl (fun _ => 0)))] := hD
  refine lv_aload_n hx hb d_Machine_init_48 rfl (lv_at hl 0 rfl) ?_
  refine lv_aload_n hx hb d_Machine_init_49 rfl (lv_at hl 1 rfl) ?_
  refine va_putF (D := (dC, dI)) (ci := 4) (v := .ref h1) (ty := .object "ChainLedger$Sha") (C := R_Machine) (T := F_Machine) (N := 11) hx hb hT i_Machine t_Machine t_Machine_ok n_Machine hown hK hP hD hS 0 rfl rfl 0 (by decide) (hT _ k_50) (fun _ h9 => h9) rfl hin rfl (by decide +kernel) rfl rfl (Nat.le_of_ble_eq_true rfl) d_Machine_init_50 (fun H locs hP hD hS => ?_)
  have hP : va_P (dC, dI) cl_all [(h0, .inr (4, [.ref h1, .ref q_1, .ref q_2, .int 0, .ref q_4, .int 0, .int 0, .ref q_6, .ref q_8, .null, .int 0])), (q_2, .inl (e_3, 24, .inl (fun _ => 0))), (q_4, .inl (e_5, 80, .inl (fun _ => 0))), (q_6, .inl (e_7, 112, .inl (fun _ => 0))), (q_8, .inl (e_9, 32, .inl (fun _ => 0)))] H := hP
  have hD : va_D A [(h0, .inr (4, [.ref h1, .ref q_1, .ref q_2, .int 0, .ref q_4, .int 0, .int 0, .ref q_6, .ref q_8, .null, .int 0])), (q_2, .inl (e_3, 24, .inl (fun _ => 0))), (q_4, .inl (e_5, 80, .inl (fun _ => 0))), (q_6, .inl (e_7, 112, .inl (fun _ => 0))), (q_8, .inl (e_9, 32, .inl (fun _ => 0)))] := hD
  refine lv_aload_n hx hb d_Machine_init_53 rfl (lv_at hl 0 rfl) ?_
  refine lv_bipush (v := 32) hx hb d_Machine_init_54 (by decide) ?_
  refine va_newa (atype := .byte) (a0 := (32, .inl (fun _ => 0))) hx hb (hT _ k_15) (ty := .byte) rfl hK hP hD hS hA (fun _ => rfl) (by decide) (N' := 32) (by decide) (by decide) (Nat.le_of_ble_eq_true rfl) (Nat.le_of_ble_eq_true rfl) d_Machine_init_56 (fun q_10 e_11 H hK hP hD hS => ?_)
  have hK : va_K (dC, dI) cl_all [(e_3, .int), (e_5, .boolean), (e_7, .byte), (e_9, .byte), (e_11, .byte)] s := hK
  have hP : va_P (dC, dI) cl_all [(h0, .inr (4, [.ref h1, .ref q_1, .ref q_2, .int 0, .ref q_4, .int 0, .int 0, .ref q_6, .ref q_8, .null, .int 0])), (q_2, .inl (e_3, 24, .inl (fun _ => 0))), (q_4, .inl (e_5, 80, .inl (fun _ => 0))), (q_6, .inl (e_7, 112, .inl (fun _ => 0))), (q_8, .inl (e_9, 32, .inl (fun _ => 0))), (q_10, .inl (e_11, 32, .inl (fun _ => 0)))] H := hP
  have hD : va_D A [(h0, .inr (4, [.ref h1, .ref q_1, .ref q_2, .int 0, .ref q_4, .int 0, .int 0, .ref q_6, .ref q_8, .null, .int 0])), (q_2, .inl (e_3, 24, .inl (fun _ => 0))), (q_4, .inl (e_5, 80, .inl (fun _ => 0))), (q_6, .inl (e_7, 112, .inl (fun _ => 0))), (q_8, .inl (e_9, 32, .inl (fun _ => 0))), (q_10, .inl (e_11, 32, .inl (fun _ => 0)))] := hD
  refine W.widen (k := 30) (n := 2224) (Nat.le_of_ble_eq_true rfl) (Nat.le_of_ble_eq_true rfl) ?_
  refine va_put (D := (dC, dI)) (ci := 4) (v := .ref q_10) (ty := .array (.byte)) (C := R_Machine) (T := F_Machine) (N := 11) hx hb hT i_Machine t_Machine t_Machine_ok n_Machine hown hK hP hD hS 0 rfl rfl 9 (by decide) (hT _ k_51) (fun _ h9 => h9) rfl (by decide +kernel) rfl rfl (Nat.le_of_ble_eq_true rfl) d_Machine_init_58 (fun H locs hP hD hS => ?_)
  have hP : va_P (dC, dI) cl_all [(h0, .inr (4, [.ref h1, .ref q_1, .ref q_2, .int 0, .ref q_4, .int 0, .int 0, .ref q_6, .ref q_8, .ref q_10, .int 0])), (q_2, .inl (e_3, 24, .inl (fun _ => 0))), (q_4, .inl (e_5, 80, .inl (fun _ => 0))), (q_6, .inl (e_7, 112, .inl (fun _ => 0))), (q_8, .inl (e_9, 32, .inl (fun _ => 0))), (q_10, .inl (e_11, 32, .inl (fun _ => 0)))] H := hP
  have hD : va_D A [(h0, .inr (4, [.ref h1, .ref q_1, .ref q_2, .int 0, .ref q_4, .int 0, .int 0, .ref q_6, .ref q_8, .ref q_10, .int 0])), (q_2, .inl (e_3, 24, .inl (fun _ => 0))), (q_4, .inl (e_5, 80, .inl (fun _ => 0))), (q_6, .inl (e_7, 112, .inl (fun _ => 0))), (q_8, .inl (e_9, 32, .inl (fun _ => 0))), (q_10, .inl (e_11, 32, .inl (fun _ => 0)))] := hD
  exact W.vret hx hb hr (fun t9 ht9 hW9 => ⟨⟨(), rfl, trivial, trivial⟩, hS.F ht9⟩) hS.2.2 d_Machine_init_61
set_option maxHeartbeats 4000000 in
set_option maxRecDepth 100000 in
/-- Judge(): likewise -/
theorem c_Judge_init (l : Launch) (dC : Nat → ClassId) (dI : Nat → Nat → Nat) (z : zT) (sz : Nat) (h0 h1 : Nat)  : Met l y_Judge_init w_Judge_init ({ frames := 2, cells := 34, slots := 6341, locals := 33 }) (va_Pc [.ref h0, .ref h1] (fun U => U.heap.size = sz ∧ va_P (dC, dI) cl_all [(h0, .inr (3, [.null, .null, .null, .null]))] U.heap ∧ va_K (dC, dI) cl_all [] U ∧ va_D (fun _ => True) [(h0, .inr (3, [.null, .null, .null, .null]))] ∧ zz z (va_A [(h0, .inr (3, [.null, .null, .null, .null]))] sz) U U.heap)) (va_Qv (fun _ : Unit => True) (fun _ t => True) (va_A [(h0, .inr (3, [.null, .null, .null, .null]))] sz)) 34 6341 (va_A [(h0, .inr (3, [.null, .null, .null, .null]))] sz) := by
  refine Met.ofW (cc := b_Judge_init) (maxL := 2) (ret := none) (by decide) rfl ?_
  intro p e s m args below meth c s₁ B hml hv
  obtain ⟨rfl, hsz, hP, hK, hD0, hZ⟩ := hv
  have hx := B.exec
  have hb := B.bytes
  have hr := B.returns
  have hT : ∀ w ∈ lw_all, w.before _ s = true := fun w h => atoms_spec (ws := w_Judge_init) B.pre w (List.mem_cons_of_mem _ h)
  have hown : s.vm.findClass R_Judge = some m.cls := findClass_of_methodNamed B.named
  have hlocks := B.notSynchronized
  have hin : meth.name = "<init>" := (name_of_methodNamed B.named B.method).1
  subst hsz
  have hD := hD0.self (sz := s.heap.size)
  generalize hAe : va_A [(h0, .inr (3, [.null, .null, .null, .null]))] s.heap.size = A at hD hZ ⊢
  have hA : ∀ q : Nat, s.heap.size ≤ q → A q := fun q h => by rw [← hAe]; exact Or.inr h
  have hS : va_S A s.heap s.heap [] := va_S.rf
  have hl := lv_entry ([.ref h0, .ref h1]) (n := 2) (Nat.le_of_ble_eq_true rfl)
  rw [lg_entry_eq]
  generalize (lg_sl ([.ref h0, .ref h1]) ++ List.replicate (2 - (lg_sl ([.ref h0, .ref h1])).length) Slot.unset).toArray = ls at hl ⊢
  have hl : lv_has ls 2 [(0, .ref h0), (1, .ref h1)] := hl
  refine lv_aload_n hx hb d_Judge_init_0 rfl (lv_at hl 0 rfl) ?_
  refine W.objInit hx hb hown (hT _ k_52) (hT _ k_1) (hT _ k_2) rfl (by rw [hml]; exact hl.1) rfl d_Judge_init_1 (Nat.le_of_ble_eq_true rfl) (Nat.le_of_ble_eq_true rfl) ?_
  refine W.eq (g2 := F0 m 4 ls []) rfl ?_
  refine lv_aload_n hx hb d_Judge_init_4 rfl (lv_at hl 0 rfl) ?_
  refine va_new (ci := 1) (fs := [.null, .int 0]) (C := R_Row) (T := F_Row) (N := 2) hx hb hT i_Row t_Row t_Row_ok hown (hT _ k_53) (hT _ k_54) (hT _ k_55) hK hP hD hS hA rfl (fun j hj => df_Row j hj) (Nat.le_of_ble_eq_true rfl) (Nat.le_of_ble_eq_true rfl) d_Judge_init_5 (fun q_1 H hP hD hS => ?_)
  have hP : va_P (dC, dI) cl_all [(h0, .inr (3, [.null, .null, .null, .null])), (q_1, .inr (1, [.null, .int 0]))] H := hP
  have hD : va_D A [(h0, .inr (3, [.null, .null, .null, .null])), (q_1, .inr (1, [.null, .int 0]))] := hD
  refine W.widen (k := 1) (n := 2) (Nat.le_of_ble_eq_true rfl) (Nat.le_of_ble_eq_true rfl) ?_
  refine lv_dup hx hb d_Judge_init_8 rfl ?_
  have hPc := hP.sub (ws' := [(q_1, .inr (1, [.null, .int 0]))]) [1] rfl
  have hDc := hD.sub (ws' := [(q_1, .inr (1, [.null, .int 0]))]) [1] (by decide) rfl
  have hKc := hK.sub (tys' := []) [] rfl
  have hFc := va_free (wc := [(q_1, .inr (1, [.null, .int 0]))]) hD hS hA [1] rfl
  refine va_callv (va_runIN (As := []) (rest := [.ref q_1, .ref h0]) ⟨hx, hb, hml, hown, hT⟩ (c_Row_init l dC dI z H.size q_1) ⟨va_cnB (host := "ChainLedger") 0 hT g_Row_init rfl rfl rfl (zn_k_56 (zz_N hZ)) (hT _ k_55) (by decide +kernel) ⟨Nat.le_of_ble_eq_true rfl, Nat.le_of_ble_eq_true rfl⟩, rfl, (hT _ k_57)⟩ (zz_pre hPc hKc hDc hZ hS hFc) rfl rfl hl.1 rfl (lv_room (Nat.le_of_ble_eq_true rfl)) d_Judge_init_9 ⟨Nat.le_of_ble_eq_true rfl, Nat.le_of_ble_eq_true rfl⟩) hS (fun q _ h => hFc q h) hFc (fun u9 t9 H1 locs ht9 hvm9 hw9 hB9 hz19 hk19 hS => ?_)
  obtain ⟨q_3, e_4, hP1, hK1, hD1⟩ := hB9
  rw [ht9] at hP1
  have hK := hK.app (va_K.moved hvm9.symm hK1)
  have hK : va_K (dC, dI) cl_all [(e_4, .byte)] s := hK
  obtain ⟨hP, hD⟩ := va_join (wr := [(h0, .inr (3, [.null, .null, .null, .null]))]) (w1 := [(q_1, .inr (1, [.ref q_3, .int 0])), (q_3, .inl (e_4, 4096, .inl (fun _ => 0)))]) hP hD [1] [0] rfl rfl (by decide) (by decide) hk19 hFc hP1 hD1
  generalize H1 = H at hP hS ⊢
  have hP : va_P (dC, dI) cl_all [(h0, .inr (3, [.null, .null, .null, .null])), (q_1, .inr (1, [.ref q_3, .int 0])), (q_3, .inl (e_4, 4096, .inl (fun _ => 0)))] H := hP
  have hD : va_D A [(h0, .inr (3, [.null, .null, .null, .null])), (q_1, .inr (1, [.ref q_3, .int 0])), (q_3, .inl (e_4, 4096, .inl (fun _ => 0)))] := hD
  refine W.widen (k := 2) (n := 4098) (Nat.le_of_ble_eq_true rfl) (Nat.le_of_ble_eq_true rfl) ?_
  refine va_putF (D := (dC, dI)) (ci := 3) (v := .ref q_1) (ty := .object "ChainLedger$Row") (C := R_Judge) (T := F_Judge) (N := 4) hx hb hT i_Judge t_Judge t_Judge_ok n_Judge hown hK hP hD hS 0 rfl rfl 2 (by decide) (hT _ k_58) (fun _ h9 => h9) rfl hin rfl (by decide +kernel) rfl rfl (Nat.le_of_ble_eq_true rfl) d_Judge_init_12 (fun H locs hP hD hS => ?_)
  have hP : va_P (dC, dI) cl_all [(h0, .inr (3, [.null, .null, .ref q_1, .null])), (q_1, .inr (1, [.ref q_3, .int 0])), (q_3, .inl (e_4, 4096, .inl (fun _ => 0)))] H := hP
  have hD : va_D A [(h0, .inr (3, [.null, .null, .ref q_1, .null])), (q_1, .inr (1, [.ref q_3, .int 0])), (q_3, .inl (e_4, 4096, .inl (fun _ => 0)))] := hD
  refine lv_aload_n hx hb d_Judge_init_15 rfl (lv_at hl 0 rfl) ?_
  refine lv_bipush (v := 8) hx hb d_Judge_init_16 (by decide) ?_
  refine va_newq (C := "ChainLedger$Coin") hx hb hown (hT _ k_59) (zz_N hZ).2.2.2.1 hK hP hD hS hA (by decide) (N' := 8) (by decide) (by decide) (Nat.le_of_ble_eq_true rfl) (Nat.le_of_ble_eq_true rfl) d_Judge_init_18 (fun q_5 e_6 H hK hP hD hS => ?_)
  have hK : va_K (dC, dI) cl_all [(e_4, .byte), (e_6, .object "ChainLedger$Coin")] s := hK
  have hP : va_P (dC, dI) cl_all [(h0, .inr (3, [.null, .null, .ref q_1, .null])), (q_1, .inr (1, [.ref q_3, .int 0])), (q_3, .inl (e_4, 4096, .inl (fun _ => 0))), (q_5, .inl (e_6, 8, .inr (.inr (.inr (.inr (fun _ => none))))))] H := hP
  have hD : va_D A [(h0, .inr (3, [.null, .null, .ref q_1, .null])), (q_1, .inr (1, [.ref q_3, .int 0])), (q_3, .inl (e_4, 4096, .inl (fun _ => 0))), (q_5, .inl (e_6, 8, .inr (.inr (.inr (.inr (fun _ => none))))))] := hD
  refine W.widen (k := 3) (n := 4106) (Nat.le_of_ble_eq_true rfl) (Nat.le_of_ble_eq_true rfl) ?_
  refine va_putF (D := (dC, dI)) (ci := 3) (v := .ref q_5) (ty := .array (.object "ChainLedger$Coin")) (C := R_Judge) (T := F_Judge) (N := 4) hx hb hT i_Judge t_Judge t_Judge_ok n_Judge hown hK hP hD hS 0 rfl rfl 3 (by decide) (hT _ k_60) (fun _ h9 => h9) rfl hin rfl (by decide +kernel) rfl rfl (Nat.le_of_ble_eq_true rfl) d_Judge_init_21 (fun H locs hP hD hS => ?_)
  have hP : va_P (dC, dI) cl_all [(h0, .inr (3, [.null, .null, .ref q_1, .ref q_5])), (q_1, .inr (1, [.ref q_3, .int 0])), (q_3, .inl (e_4, 4096, .inl (fun _ => 0))), (q_5, .inl (e_6, 8, .inr (.inr (.inr (.inr (fun _ => none))))))] H := hP
  have hD : va_D A [(h0, .inr (3, [.null, .null, .ref q_1, .ref q_5])), (q_1, .inr (1, [.ref q_3, .int 0])), (q_3, .inl (e_4, 4096, .inl (fun _ => 0))), (q_5, .inl (e_6, 8, .inr (.inr (.inr (.inr (fun _ => none))))))] := hD
  refine lv_aload_n hx hb d_Judge_init_24 rfl (lv_at hl 0 rfl) ?_
  refine lv_aload_n hx hb d_Judge_init_25 rfl (lv_at hl 1 rfl) ?_
  refine va_putF (D := (dC, dI)) (ci := 3) (v := .ref h1) (ty := .object "ChainLedger$Sha") (C := R_Judge) (T := F_Judge) (N := 4) hx hb hT i_Judge t_Judge t_Judge_ok n_Judge hown hK hP hD hS 0 rfl rfl 0 (by decide) (hT _ k_61) (fun _ h9 => h9) rfl hin rfl (by decide +kernel) rfl rfl (Nat.le_of_ble_eq_true rfl) d_Judge_init_26 (fun H locs hP hD hS => ?_)
  have hP : va_P (dC, dI) cl_all [(h0, .inr (3, [.ref h1, .null, .ref q_1, .ref q_5])), (q_1, .inr (1, [.ref q_3, .int 0])), (q_3, .inl (e_4, 4096, .inl (fun _ => 0))), (q_5, .inl (e_6, 8, .inr (.inr (.inr (.inr (fun _ => none))))))] H := hP
  have hD : va_D A [(h0, .inr (3, [.ref h1, .null, .ref q_1, .ref q_5])), (q_1, .inr (1, [.ref q_3, .int 0])), (q_3, .inl (e_4, 4096, .inl (fun _ => 0))), (q_5, .inl (e_6, 8, .inr (.inr (.inr (.inr (fun _ => none))))))] := hD
  refine lv_aload_n hx hb d_Judge_init_29 rfl (lv_at hl 0 rfl) ?_
  refine va_new (ci := 4) (fs := [.null, .null, .null, .int 0, .null, .int 0, .int 0, .null, .null, .null, .int 0]) (C := R_Machine) (T := F_Machine) (N := 11) hx hb hT i_Machine t_Machine t_Machine_ok hown (hT _ k_62) (hT _ k_63) (hT _ k_64) hK hP hD hS hA rfl (fun j hj => df_Machine j hj) (Nat.le_of_ble_eq_true rfl) (Nat.le_of_ble_eq_true rfl) d_Judge_init_30 (fun q_7 H hP hD hS => ?_)
  have hP : va_P (dC, dI) cl_all [(h0, .inr (3, [.ref h1, .null, .ref q_1, .ref q_5])), (q_1, .inr (1, [.ref q_3, .int 0])), (q_3, .inl (e_4, 4096, .inl (fun _ => 0))), (q_5, .inl (e_6, 8, .inr (.inr (.inr (.inr (fun _ => none)))))), (q_7, .inr (4, [.null, .null, .null, .int 0, .null, .int 0, .int 0, .null, .null, .null, .int 0]))] H := hP
  have hD : va_D A [(h0, .inr (3, [.ref h1, .null, .ref q_1, .ref q_5])), (q_1, .inr (1, [.ref q_3, .int 0])), (q_3, .inl (e_4, 4096, .inl (fun _ => 0))), (q_5, .inl (e_6, 8, .inr (.inr (.inr (.inr (fun _ => none)))))), (q_7, .inr (4, [.null, .null, .null, .int 0, .null, .int 0, .int 0, .null, .null, .null, .int 0]))] := hD
  refine W.widen (k := 4) (n := 4117) (Nat.le_of_ble_eq_true rfl) (Nat.le_of_ble_eq_true rfl) ?_
  refine lv_dup hx hb d_Judge_init_33 rfl ?_
  refine lv_aload_n hx hb d_Judge_init_34 rfl (lv_at hl 1 rfl) ?_
  have hPc := hP.sub (ws' := [(q_7, .inr (4, [.null, .null, .null, .int 0, .null, .int 0, .int 0, .null, .null, .null, .int 0]))]) [4] rfl
  have hDc := hD.sub (ws' := [(q_7, .inr (4, [.null, .null, .null, .int 0, .null, .int 0, .int 0, .null, .null, .null, .int 0]))]) [4] (by decide) rfl
  have hKc := hK.sub (tys' := []) [] rfl
  have hFc := va_free (wc := [(q_7, .inr (4, [.null, .null, .null, .int 0, .null, .int 0, .int 0, .null, .null, .null, .int 0]))]) hD hS hA [4] rfl
  refine va_callv (va_runI (As := [.ref h1]) (rest := [.ref q_7, .ref h0]) ⟨hx, hb, hml, hown, hT⟩ (c_Machine_init l dC dI z H.size q_7 h1) (cwI 1 hT g_Machine_init rfl rfl rfl (hT _ k_64) (hT _ k_65) (hT _ k_66) rfl (by decide +kernel) ⟨Nat.le_of_ble_eq_true rfl, Nat.le_of_ble_eq_true rfl⟩) (zz_pre hPc hKc hDc hZ hS hFc) rfl rfl hl.1 rfl (lv_room (Nat.le_of_ble_eq_true rfl)) d_Judge_init_35 ⟨Nat.le_of_ble_eq_true rfl, Nat.le_of_ble_eq_true rfl⟩) hS (fun q _ h => hFc q h) hFc (fun u9 t9 H1 locs ht9 hvm9 hw9 hB9 hz19 hk19 hS => ?_)
  have hP1 : va_P (dC, dI) cl_all [] H1 := zz_P0
  have hD1 : va_D (va_A [(q_7, .inr (4, [.null, .null, .null, .int 0, .null, .int 0, .int 0, .null, .null, .null, .int 0]))] H.size) [] := zz_D0
  obtain ⟨hP, hD⟩ := va_join (wr := [(h0, .inr (3, [.ref h1, .null, .ref q_1, .ref q_5])), (q_1, .inr (1, [.ref q_3, .int 0])), (q_3, .inl (e_4, 4096, .inl (fun _ => 0))), (q_5, .inl (e_6, 8, .inr (.inr (.inr (.inr (fun _ => none))))))]) (w1 := []) hP hD [4] [0, 1, 2, 3] rfl rfl (by decide) (by decide) hk19 hFc hP1 hD1
  generalize H1 = H at hP hS ⊢
  have hP : va_P (dC, dI) cl_all [(h0, .inr (3, [.ref h1, .null, .ref q_1, .ref q_5])), (q_1, .inr (1, [.ref q_3, .int 0])), (q_3, .inl (e_4, 4096, .inl (fun _ => 0))), (q_5, .inl (e_6, 8, .inr (.inr (.inr (.inr (fun _ => none))))))] H := hP
  have hD : va_D A [(h0, .inr (3, [.ref h1, .null, .ref q_1, .ref q_5])), (q_1, .inr (1, [.ref q_3, .int 0])), (q_3, .inl (e_4, 4096, .inl (fun _ => 0))), (q_5, .inl (e_6, 8, .inr (.inr (.inr (.inr (fun _ => none))))))] := hD
  refine W.widen (k := 34) (n := 6341) (Nat.le_of_ble_eq_true rfl) (Nat.le_of_ble_eq_true rfl) ?_
  refine va_putF (D := (dC, dI)) (ci := 3) (v := .ref q_7) (ty := .object "ChainLedger$Machine") (C := R_Judge) (T := F_Judge) (N := 4) hx hb hT i_Judge t_Judge t_Judge_ok n_Judge hown hK hP hD hS 0 rfl rfl 1 (by decide) (hT _ k_67) (fun _ h9 => h9) rfl hin rfl (by decide +kernel) rfl rfl (Nat.le_of_ble_eq_true rfl) d_Judge_init_38 (fun H locs hP hD hS => ?_)
  have hP : va_P (dC, dI) cl_all [(h0, .inr (3, [.ref h1, .ref q_7, .ref q_1, .ref q_5])), (q_1, .inr (1, [.ref q_3, .int 0])), (q_3, .inl (e_4, 4096, .inl (fun _ => 0))), (q_5, .inl (e_6, 8, .inr (.inr (.inr (.inr (fun _ => none))))))] H := hP
  have hD : va_D A [(h0, .inr (3, [.ref h1, .ref q_7, .ref q_1, .ref q_5])), (q_1, .inr (1, [.ref q_3, .int 0])), (q_3, .inl (e_4, 4096, .inl (fun _ => 0))), (q_5, .inl (e_6, 8, .inr (.inr (.inr (.inr (fun _ => none))))))] := hD
  exact W.vret hx hb hr (fun t9 ht9 hW9 => ⟨⟨(), rfl, trivial, trivial⟩, hS.F ht9⟩) hS.2.2 d_Judge_init_41
set_option maxHeartbeats 4000000 in
set_option maxRecDepth 100000 in
/-- Chain(): BLOCK 0 alone is stored, and is the tip -/
theorem c_Chain_init (l : Launch) (dC : Nat → ClassId) (dI : Nat → Nat → Nat) (z : zT) (sz : Nat) (h0 h1 h2 : Nat)  : Met l y_Chain_init w_Chain_init ({ frames := 5, cells := 12, slots := 1890, locals := 92 }) (va_Pc [.ref h0, .ref h1, .ref h2] (fun U => U.heap.size = sz ∧ va_P (dC, dI) cl_all [(h0, .inr (5, [.null, .null, .null, .null, .int 0, .int 0, .null, .null, .null, .null, .int 0, .null, .int 0, .null, .int 0, .int 0, .null]))] U.heap ∧ va_K (dC, dI) cl_all [] U ∧ va_D (fun _ => True) [(h0, .inr (5, [.null, .null, .null, .null, .int 0, .int 0, .null, .null, .null, .null, .int 0, .null, .int 0, .null, .int 0, .int 0, .null]))] ∧ zz z (va_A [(h0, .inr (5, [.null, .null, .null, .null, .int 0, .int 0, .null, .null, .null, .null, .int 0, .null, .int 0, .null, .int 0, .int 0, .null]))] sz) U U.heap)) (va_Qv (fun _ : Unit => True) (fun _ t => ∃ (q1 : Nat) (q2 : Nat) (q3 : Nat) (q4 : Nat) (q5 : Nat) (q6 : Nat) (q7 : Nat) (q8 : Nat) (q9 : Nat) (q10 : Nat) (q11 : Nat) (q12 : Nat) (e1 : ClassId) (e2 : ClassId) (e3 : ClassId) (fb : Nat → Option Nat), fb 0 = some q6 ∧ va_P (dC, dI) cl_all [(h0, .inr (5, [.ref h1, .ref h2, .ref q1, .ref q3, .int 1, .int 0, .ref q4, .ref q6, .ref q5, .ref q8, .int 0, .ref q9, .int 0, .ref q10, .int 0, .int 1, .null])), (q1, .inr (8, [.ref q2])), (q2, .inr (10, [.int 0, .ref z.1, .int 0])), (q3, .inl (e1, 256, .inr (.inr (.inr (.inr fb))))), (q4, .inr (10, [.int 0, .ref z.1, .int 0])), (q5, .inl (e2, 1024, .inl (fun _ => 0))), (q6, .inr (6, [.null, .int 0, .ref q7, .int 0, .int 32768, .int 0, .ref q11, .int 0, .null, .int 0, .int 0, .long 0, .int 1, .int 0, .int 1, .int 0, .ref q12])), (q7, .inl (e3, 32, .inl (fun _ => 0)))] t.heap ∧ va_K (dC, dI) cl_all [(e1, .object "ChainLedger$Block"), (e2, .byte), (e3, .byte)] t ∧ va_D (va_A [(h0, .inr (5, [.null, .null, .null, .null, .int 0, .int 0, .null, .null, .null, .null, .int 0, .null, .int 0, .null, .int 0, .int 0, .null]))] sz) [(h0, .inr (5, [.ref h1, .ref h2, .ref q1, .ref q3, .int 1, .int 0, .ref q4, .ref q6, .ref q5, .ref q8, .int 0, .ref q9, .int 0, .ref q10, .int 0, .int 1, .null])), (q1, .inr (8, [.ref q2])), (q2, .inr (10, [.int 0, .ref z.1, .int 0])), (q3, .inl (e1, 256, .inr (.inr (.inr (.inr fb))))), (q4, .inr (10, [.int 0, .ref z.1, .int 0])), (q5, .inl (e2, 1024, .inl (fun _ => 0))), (q6, .inr (6, [.null, .int 0, .ref q7, .int 0, .int 32768, .int 0, .ref q11, .int 0, .null, .int 0, .int 0, .long 0, .int 1, .int 0, .int 1, .int 0, .ref q12])), (q7, .inl (e3, 32, .inl (fun _ => 0)))]) (va_A [(h0, .inr (5, [.null, .null, .null, .null, .int 0, .int 0, .null, .null, .null, .null, .int 0, .null, .int 0, .null, .int 0, .int 0, .null]))] sz)) 12 1890 (va_A [(h0, .inr (5, [.null, .null, .null, .null, .int 0, .int 0, .null, .null, .null, .null, .int 0, .null, .int 0, .null, .int 0, .int 0, .null]))] sz) := by
  refine Met.ofW (cc := b_Chain_init) (maxL := 4) (ret := none) (by decide) rfl ?_
  intro p e s m args below meth c s₁ B hml hv
  obtain ⟨rfl, hsz, hP, hK, hD0, hZ⟩ := hv
  have hx := B.exec
  have hb := B.bytes
  have hr := B.returns
  have hT : ∀ w ∈ lw_all, w.before _ s = true := fun w h => atoms_spec (ws := w_Chain_init) B.pre w (List.mem_cons_of_mem _ h)
  have hown : s.vm.findClass R_Chain = some m.cls := findClass_of_methodNamed B.named
  have hlocks := B.notSynchronized
  have hin : meth.name = "<init>" := (name_of_methodNamed B.named B.method).1
  subst hsz
  have hD := hD0.self (sz := s.heap.size)
  generalize hAe : va_A [(h0, .inr (5, [.null, .null, .null, .null, .int 0, .int 0, .null, .null, .null, .null, .int 0, .null, .int 0, .null, .int 0, .int 0, .null]))] s.heap.size = A at hD hZ ⊢
  have hA : ∀ q : Nat, s.heap.size ≤ q → A q := fun q h => by rw [← hAe]; exact Or.inr h
  have hS : va_S A s.heap s.heap [] := va_S.rf
  have hl := lv_entry ([.ref h0, .ref h1, .ref h2]) (n := 4) (Nat.le_of_ble_eq_true rfl)
  rw [lg_entry_eq]
  generalize (lg_sl ([.ref h0, .ref h1, .ref h2]) ++ List.replicate (4 - (lg_sl ([.ref h0, .ref h1, .ref h2])).length) Slot.unset).toArray = ls at hl ⊢
  have hl : lv_has ls 4 [(0, .ref h0), (1, .ref h1), (2, .ref h2)] := hl
  refine lv_aload_n hx hb d_Chain_init_0 rfl (lv_at hl 0 rfl) ?_
  refine W.objInit hx hb hown (hT _ k_68) (hT _ k_1) (hT _ k_2) rfl (by rw [hml]; exact hl.1) rfl d_Chain_init_1 (Nat.le_of_ble_eq_true rfl) (Nat.le_of_ble_eq_true rfl) ?_
  refine W.eq (g2 := F0 m 4 ls []) rfl ?_
  refine lv_aload_n hx hb d_Chain_init_4 rfl (lv_at hl 0 rfl) ?_
  refine va_new (ci := 8) (fs := [.null]) (C := R_Coins) (T := F_Coins) (N := 1) hx hb hT i_Coins t_Coins t_Coins_ok hown (hT _ k_69) (hT _ k_70) (hT _ k_71) hK hP hD hS hA rfl (fun j hj => df_Coins j hj) (Nat.le_of_ble_eq_true rfl) (Nat.le_of_ble_eq_true rfl) d_Chain_init_5 (fun q_1 H hP hD hS => ?_)
  have hP : va_P (dC, dI) cl_all [(h0, .inr (5, [.null, .null, .null, .null, .int 0, .int 0, .null, .null, .null, .null, .int 0, .null, .int 0, .null, .int 0, .int 0, .null])), (q_1, .inr (8, [.null]))] H := hP
  have hD : va_D A [(h0, .inr (5, [.null, .null, .null, .null, .int 0, .int 0, .null, .null, .null, .null, .int 0, .null, .int 0, .null, .int 0, .int 0, .null])), (q_1, .inr (8, [.null]))] := hD
  refine W.widen (k := 1) (n := 1) (Nat.le_of_ble_eq_true rfl) (Nat.le_of_ble_eq_true rfl) ?_
  refine lv_dup hx hb d_Chain_init_8 rfl ?_
  have hPc := hP.sub (ws' := [(q_1, .inr (8, [.null]))]) [1] rfl
  have hDc := hD.sub (ws' := [(q_1, .inr (8, [.null]))]) [1] (by decide) rfl
  have hKc := hK.sub (tys' := []) [] rfl
  have hFc := va_free (wc := [(q_1, .inr (8, [.null]))]) hD hS hA [1] rfl
  refine va_callv (va_runIN (As := []) (rest := [.ref q_1, .ref h0]) ⟨hx, hb, hml, hown, hT⟩ (c_Coins_init l dC dI z H.size q_1) ⟨va_cnB (host := "ChainLedger") 0 hT g_Coins_init rfl rfl rfl (zn_k_72 (zz_N hZ)) (hT _ k_71) (by decide +kernel) ⟨Nat.le_of_ble_eq_true rfl, Nat.le_of_ble_eq_true rfl⟩, rfl, (hT _ k_73)⟩ (zz_pre hPc hKc hDc hZ hS hFc) rfl rfl hl.1 rfl (lv_room (Nat.le_of_ble_eq_true rfl)) d_Chain_init_9 ⟨Nat.le_of_ble_eq_true rfl, Nat.le_of_ble_eq_true rfl⟩) hS (fun q _ h => hFc q h) hFc (fun u9 t9 H1 locs ht9 hvm9 hw9 hB9 hz19 hk19 hS => ?_)
  obtain ⟨q_3, hP1, hK1, hD1⟩ := hB9
  rw [ht9] at hP1
  obtain ⟨hP, hD⟩ := va_join (wr := [(h0, .inr (5, [.null, .null, .null, .null, .int 0, .int 0, .null, .null, .null, .null, .int 0, .null, .int 0, .null, .int 0, .int 0, .null]))]) (w1 := [(q_1, .inr (8, [.ref q_3])), (q_3, .inr (10, [.int 0, .ref z.1, .int 0]))]) hP hD [1] [0] rfl rfl (by decide) (by decide) hk19 hFc hP1 hD1
  generalize H1 = H at hP hS ⊢
  have hP : va_P (dC, dI) cl_all [(h0, .inr (5, [.null, .null, .null, .null, .int 0, .int 0, .null, .null, .null, .null, .int 0, .null, .int 0, .null, .int 0, .int 0, .null])), (q_1, .inr (8, [.ref q_3])), (q_3, .inr (10, [.int 0, .ref z.1, .int 0]))] H := hP
  have hD : va_D A [(h0, .inr (5, [.null, .null, .null, .null, .int 0, .int 0, .null, .null, .null, .null, .int 0, .null, .int 0, .null, .int 0, .int 0, .null])), (q_1, .inr (8, [.ref q_3])), (q_3, .inr (10, [.int 0, .ref z.1, .int 0]))] := hD
  refine W.widen (k := 2) (n := 4) (Nat.le_of_ble_eq_true rfl) (Nat.le_of_ble_eq_true rfl) ?_
  refine va_putF (D := (dC, dI)) (ci := 5) (v := .ref q_1) (ty := .object "ChainLedger$Coins") (C := R_Chain) (T := F_Chain) (N := 17) hx hb hT i_Chain t_Chain t_Chain_ok n_Chain hown hK hP hD hS 0 rfl rfl 2 (by decide) (hT _ k_74) (fun _ h9 => h9) rfl hin rfl (by decide +kernel) rfl rfl (Nat.le_of_ble_eq_true rfl) d_Chain_init_12 (fun H locs hP hD hS => ?_)
  have hP : va_P (dC, dI) cl_all [(h0, .inr (5, [.null, .null, .ref q_1, .null, .int 0, .int 0, .null, .null, .null, .null, .int 0, .null, .int 0, .null, .int 0, .int 0, .null])), (q_1, .inr (8, [.ref q_3])), (q_3, .inr (10, [.int 0, .ref z.1, .int 0]))] H := hP
  have hD : va_D A [(h0, .inr (5, [.null, .null, .ref q_1, .null, .int 0, .int 0, .null, .null, .null, .null, .int 0, .null, .int 0, .null, .int 0, .int 0, .null])), (q_1, .inr (8, [.ref q_3])), (q_3, .inr (10, [.int 0, .ref z.1, .int 0]))] := hD
  refine lv_aload_n hx hb d_Chain_init_15 rfl (lv_at hl 0 rfl) ?_
  refine lv_sipush (v := 256) hx hb d_Chain_init_16 (by decide) ?_
  refine va_newq (C := "ChainLedger$Block") hx hb hown (hT _ k_75) (zz_N hZ).2.1 hK hP hD hS hA (by decide) (N' := 256) (by decide) (by decide) (Nat.le_of_ble_eq_true rfl) (Nat.le_of_ble_eq_true rfl) d_Chain_init_19 (fun q_4 e_5 H hK hP hD hS => ?_)
  have hK : va_K (dC, dI) cl_all [(e_5, .object "ChainLedger$Block")] s := hK
  have hP : va_P (dC, dI) cl_all [(h0, .inr (5, [.null, .null, .ref q_1, .null, .int 0, .int 0, .null, .null, .null, .null, .int 0, .null, .int 0, .null, .int 0, .int 0, .null])), (q_1, .inr (8, [.ref q_3])), (q_3, .inr (10, [.int 0, .ref z.1, .int 0])), (q_4, .inl (e_5, 256, .inr (.inr (.inr (.inr (fun _ => none))))))] H := hP
  have hD : va_D A [(h0, .inr (5, [.null, .null, .ref q_1, .null, .int 0, .int 0, .null, .null, .null, .null, .int 0, .null, .int 0, .null, .int 0, .int 0, .null])), (q_1, .inr (8, [.ref q_3])), (q_3, .inr (10, [.int 0, .ref z.1, .int 0])), (q_4, .inl (e_5, 256, .inr (.inr (.inr (.inr (fun _ => none))))))] := hD
  refine W.widen (k := 3) (n := 260) (Nat.le_of_ble_eq_true rfl) (Nat.le_of_ble_eq_true rfl) ?_
  refine va_putF (D := (dC, dI)) (ci := 5) (v := .ref q_4) (ty := .array (.object "ChainLedger$Block")) (C := R_Chain) (T := F_Chain) (N := 17) hx hb hT i_Chain t_Chain t_Chain_ok n_Chain hown hK hP hD hS 0 rfl rfl 3 (by decide) (hT _ k_76) (fun _ h9 => h9) rfl hin rfl (by decide +kernel) rfl rfl (Nat.le_of_ble_eq_true rfl) d_Chain_init_22 (fun H locs hP hD hS => ?_)
  have hP : va_P (dC, dI) cl_all [(h0, .inr (5, [.null, .null, .ref q_1, .ref q_4, .int 0, .int 0, .null, .null, .null, .null, .int 0, .null, .int 0, .null, .int 0, .int 0, .null])), (q_1, .inr (8, [.ref q_3])), (q_3, .inr (10, [.int 0, .ref z.1, .int 0])), (q_4, .inl (e_5, 256, .inr (.inr (.inr (.inr (fun _ => none))))))] H := hP
  have hD : va_D A [(h0, .inr (5, [.null, .null, .ref q_1, .ref q_4, .int 0, .int 0, .null, .null, .null, .null, .int 0, .null, .int 0, .null, .int 0, .int 0, .null])), (q_1, .inr (8, [.ref q_3])), (q_3, .inr (10, [.int 0, .ref z.1, .int 0])), (q_4, .inl (e_5, 256, .inr (.inr (.inr (.inr (fun _ => none))))))] := hD
  refine lv_aload_n hx hb d_Chain_init_25 rfl (lv_at hl 0 rfl) ?_
  refine va_new (ci := 10) (fs := [.int 0, .null, .int 0]) (C := R_AL) (T := F_AL) (N := 3) hx hb hT i_AL t_AL t_AL_ok hown (hT _ k_77) (hT _ k_26) (hT _ k_27) hK hP hD hS hA rfl (fun j hj => df_AL j hj) (Nat.le_of_ble_eq_true rfl) (Nat.le_of_ble_eq_true rfl) d_Chain_init_26 (fun q_6 H hP hD hS => ?_)
  have hP : va_P (dC, dI) cl_all [(h0, .inr (5, [.null, .null, .ref q_1, .ref q_4, .int 0, .int 0, .null, .null, .null, .null, .int 0, .null, .int 0, .null, .int 0, .int 0, .null])), (q_1, .inr (8, [.ref q_3])), (q_3, .inr (10, [.int 0, .ref z.1, .int 0])), (q_4, .inl (e_5, 256, .inr (.inr (.inr (.inr (fun _ => none)))))), (q_6, .inr (10, [.int 0, .null, .int 0]))] H := hP
  have hD : va_D A [(h0, .inr (5, [.null, .null, .ref q_1, .ref q_4, .int 0, .int 0, .null, .null, .null, .null, .int 0, .null, .int 0, .null, .int 0, .int 0, .null])), (q_1, .inr (8, [.ref q_3])), (q_3, .inr (10, [.int 0, .ref z.1, .int 0])), (q_4, .inl (e_5, 256, .inr (.inr (.inr (.inr (fun _ => none)))))), (q_6, .inr (10, [.int 0, .null, .int 0]))] := hD
  refine W.widen (k := 4) (n := 263) (Nat.le_of_ble_eq_true rfl) (Nat.le_of_ble_eq_true rfl) ?_
  refine lv_dup hx hb d_Chain_init_29 rfl ?_
  have hPc := hP.sub (ws' := [(q_6, .inr (10, [.int 0, .null, .int 0]))]) [4] rfl
  have hDc := hD.sub (ws' := [(q_6, .inr (10, [.int 0, .null, .int 0]))]) [4] (by decide) rfl
  have hKc := hK.sub (tys' := []) [] rfl
  have hFc := va_free (wc := [(q_6, .inr (10, [.int 0, .null, .int 0]))]) hD hS hA [4] rfl
  refine va_callv (va_runI (As := []) (rest := [.ref q_6, .ref h0]) ⟨hx, hb, hml, hown, hT⟩ (c_AL_init l dC dI z H.size q_6) (cwI 0 hT g_AL_init rfl rfl rfl (hT _ k_27) (hT _ k_78) (hT _ k_29) rfl (by decide +kernel) ⟨Nat.le_of_ble_eq_true rfl, Nat.le_of_ble_eq_true rfl⟩) (zz_pre hPc hKc hDc hZ hS hFc) rfl rfl hl.1 rfl (lv_room (Nat.le_of_ble_eq_true rfl)) d_Chain_init_30 ⟨Nat.le_of_ble_eq_true rfl, Nat.le_of_ble_eq_true rfl⟩) hS (fun q _ h => hFc q h) hFc (fun u9 t9 H1 locs ht9 hvm9 hw9 hB9 hz19 hk19 hS => ?_)
  obtain ⟨hP1, hK1, hD1⟩ := hB9
  rw [ht9] at hP1
  obtain ⟨hP, hD⟩ := va_join (wr := [(h0, .inr (5, [.null, .null, .ref q_1, .ref q_4, .int 0, .int 0, .null, .null, .null, .null, .int 0, .null, .int 0, .null, .int 0, .int 0, .null])), (q_1, .inr (8, [.ref q_3])), (q_3, .inr (10, [.int 0, .ref z.1, .int 0])), (q_4, .inl (e_5, 256, .inr (.inr (.inr (.inr (fun _ => none))))))]) (w1 := [(q_6, .inr (10, [.int 0, .ref z.1, .int 0]))]) hP hD [4] [0, 1, 2, 3] rfl rfl (by decide) (by decide) hk19 hFc hP1 hD1
  generalize H1 = H at hP hS ⊢
  have hP : va_P (dC, dI) cl_all [(h0, .inr (5, [.null, .null, .ref q_1, .ref q_4, .int 0, .int 0, .null, .null, .null, .null, .int 0, .null, .int 0, .null, .int 0, .int 0, .null])), (q_1, .inr (8, [.ref q_3])), (q_3, .inr (10, [.int 0, .ref z.1, .int 0])), (q_4, .inl (e_5, 256, .inr (.inr (.inr (.inr (fun _ => none)))))), (q_6, .inr (10, [.int 0, .ref z.1, .int 0]))] H := hP
  have hD : va_D A [(h0, .inr (5, [.null, .null, .ref q_1, .ref q_4, .int 0, .int 0, .null, .null, .null, .null, .int 0, .null, .int 0, .null, .int 0, .int 0, .null])), (q_1, .inr (8, [.ref q_3])), (q_3, .inr (10, [.int 0, .ref z.1, .int 0])), (q_4, .inl (e_5, 256, .inr (.inr (.inr (.inr (fun _ => none)))))), (q_6, .inr (10, [.int 0, .ref z.1, .int 0]))] := hD
  refine va_putF (D := (dC, dI)) (ci := 5) (v := .ref q_6) (ty := .object "java/util/ArrayList") (C := R_Chain) (T := F_Chain) (N := 17) hx hb hT i_Chain t_Chain t_Chain_ok n_Chain hown hK hP hD hS 0 rfl rfl 6 (by decide) (hT _ k_79) (fun _ h9 => h9) rfl hin rfl (by decide +kernel) rfl rfl (Nat.le_of_ble_eq_true rfl) d_Chain_init_33 (fun H locs hP hD hS => ?_)
  have hP : va_P (dC, dI) cl_all [(h0, .inr (5, [.null, .null, .ref q_1, .ref q_4, .int 0, .int 0, .ref q_6, .null, .null, .null, .int 0, .null, .int 0, .null, .int 0, .int 0, .null])), (q_1, .inr (8, [.ref q_3])), (q_3, .inr (10, [.int 0, .ref z.1, .int 0])), (q_4, .inl (e_5, 256, .inr (.inr (.inr (.inr (fun _ => none)))))), (q_6, .inr (10, [.int 0, .ref z.1, .int 0]))] H := hP
  have hD : va_D A [(h0, .inr (5, [.null, .null, .ref q_1, .ref q_4, .int 0, .int 0, .ref q_6, .null, .null, .null, .int 0, .null, .int 0, .null, .int 0, .int 0, .null])), (q_1, .inr (8, [.ref q_3])), (q_3, .inr (10, [.int 0, .ref z.1, .int 0])), (q_4, .inl (e_5, 256, .inr (.inr (.inr (.inr (fun _ => none)))))), (q_6, .inr (10, [.int 0, .ref z.1, .int 0]))] := hD
  refine lv_aload_n hx hb d_Chain_init_36 rfl (lv_at hl 0 rfl) ?_
  refine lv_sipush (v := 1024) hx hb d_Chain_init_37 (by decide) ?_
  refine va_newa (atype := .byte) (a0 := (1024, .inl (fun _ => 0))) hx hb (hT _ k_15) (ty := .byte) rfl hK hP hD hS hA (fun _ => rfl) (by decide) (N' := 1024) (by decide) (by decide) (Nat.le_of_ble_eq_true rfl) (Nat.le_of_ble_eq_true rfl) d_Chain_init_40 (fun q_8 e_9 H hK hP hD hS => ?_)
  have hK : va_K (dC, dI) cl_all [(e_5, .object "ChainLedger$Block"), (e_9, .byte)] s := hK
  have hP : va_P (dC, dI) cl_all [(h0, .inr (5, [.null, .null, .ref q_1, .ref q_4, .int 0, .int 0, .ref q_6, .null, .null, .null, .int 0, .null, .int 0, .null, .int 0, .int 0, .null])), (q_1, .inr (8, [.ref q_3])), (q_3, .inr (10, [.int 0, .ref z.1, .int 0])), (q_4, .inl (e_5, 256, .inr (.inr (.inr (.inr (fun _ => none)))))), (q_6, .inr (10, [.int 0, .ref z.1, .int 0])), (q_8, .inl (e_9, 1024, .inl (fun _ => 0)))] H := hP
  have hD : va_D A [(h0, .inr (5, [.null, .null, .ref q_1, .ref q_4, .int 0, .int 0, .ref q_6, .null, .null, .null, .int 0, .null, .int 0, .null, .int 0, .int 0, .null])), (q_1, .inr (8, [.ref q_3])), (q_3, .inr (10, [.int 0, .ref z.1, .int 0])), (q_4, .inl (e_5, 256, .inr (.inr (.inr (.inr (fun _ => none)))))), (q_6, .inr (10, [.int 0, .ref z.1, .int 0])), (q_8, .inl (e_9, 1024, .inl (fun _ => 0)))] := hD
  refine W.widen (k := 5) (n := 1287) (Nat.le_of_ble_eq_true rfl) (Nat.le_of_ble_eq_true rfl) ?_
  refine va_putF (D := (dC, dI)) (ci := 5) (v := .ref q_8) (ty := .array (.byte)) (C := R_Chain) (T := F_Chain) (N := 17) hx hb hT i_Chain t_Chain t_Chain_ok n_Chain hown hK hP hD hS 0 rfl rfl 8 (by decide) (hT _ k_80) (fun _ h9 => h9) rfl hin rfl (by decide +kernel) rfl rfl (Nat.le_of_ble_eq_true rfl) d_Chain_init_42 (fun H locs hP hD hS => ?_)
  have hP : va_P (dC, dI) cl_all [(h0, .inr (5, [.null, .null, .ref q_1, .ref q_4, .int 0, .int 0, .ref q_6, .null, .ref q_8, .null, .int 0, .null, .int 0, .null, .int 0, .int 0, .null])), (q_1, .inr (8, [.ref q_3])), (q_3, .inr (10, [.int 0, .ref z.1, .int 0])), (q_4, .inl (e_5, 256, .inr (.inr (.inr (.inr (fun _ => none)))))), (q_6, .inr (10, [.int 0, .ref z.1, .int 0])), (q_8, .inl (e_9, 1024, .inl (fun _ => 0)))] H := hP
  have hD : va_D A [(h0, .inr (5, [.null, .null, .ref q_1, .ref q_4, .int 0, .int 0, .ref q_6, .null, .ref q_8, .null, .int 0, .null, .int 0, .null, .int 0, .int 0, .null])), (q_1, .inr (8, [.ref q_3])), (q_3, .inr (10, [.int 0, .ref z.1, .int 0])), (q_4, .inl (e_5, 256, .inr (.inr (.inr (.inr (fun _ => none)))))), (q_6, .inr (10, [.int 0, .ref z.1, .int 0])), (q_8, .inl (e_9, 1024, .inl (fun _ => 0)))] := hD
  refine lv_aload_n hx hb d_Chain_init_45 rfl (lv_at hl 0 rfl) ?_
  refine lv_sipush (v := 256) hx hb d_Chain_init_46 (by decide) ?_
  refine va_newq (C := "ChainLedger$Block") hx hb hown (hT _ k_75) (zz_N hZ).2.1 hK hP hD hS hA (by decide) (N' := 256) (by decide) (by decide) (Nat.le_of_ble_eq_true rfl) (Nat.le_of_ble_eq_true rfl) d_Chain_init_49 (fun q_10 e_11 H hK hP hD hS => ?_)
  have hK : va_K (dC, dI) cl_all [(e_5, .object "ChainLedger$Block"), (e_9, .byte), (e_11, .object "ChainLedger$Block")] s := hK
  have hP : va_P (dC, dI) cl_all [(h0, .inr (5, [.null, .null, .ref q_1, .ref q_4, .int 0, .int 0, .ref q_6, .null, .ref q_8, .null, .int 0, .null, .int 0, .null, .int 0, .int 0, .null])), (q_1, .inr (8, [.ref q_3])), (q_3, .inr (10, [.int 0, .ref z.1, .int 0])), (q_4, .inl (e_5, 256, .inr (.inr (.inr (.inr (fun _ => none)))))), (q_6, .inr (10, [.int 0, .ref z.1, .int 0])), (q_8, .inl (e_9, 1024, .inl (fun _ => 0))), (q_10, .inl (e_11, 256, .inr (.inr (.inr (.inr (fun _ => none))))))] H := hP
  have hD : va_D A [(h0, .inr (5, [.null, .null, .ref q_1, .ref q_4, .int 0, .int 0, .ref q_6, .null, .ref q_8, .null, .int 0, .null, .int 0, .null, .int 0, .int 0, .null])), (q_1, .inr (8, [.ref q_3])), (q_3, .inr (10, [.int 0, .ref z.1, .int 0])), (q_4, .inl (e_5, 256, .inr (.inr (.inr (.inr (fun _ => none)))))), (q_6, .inr (10, [.int 0, .ref z.1, .int 0])), (q_8, .inl (e_9, 1024, .inl (fun _ => 0))), (q_10, .inl (e_11, 256, .inr (.inr (.inr (.inr (fun _ => none))))))] := hD
  refine W.widen (k := 6) (n := 1543) (Nat.le_of_ble_eq_true rfl) (Nat.le_of_ble_eq_true rfl) ?_
  refine va_putF (D := (dC, dI)) (ci := 5) (v := .ref q_10) (ty := .array (.object "ChainLedger$Block")) (C := R_Chain) (T := F_Chain) (N := 17) hx hb hT i_Chain t_Chain t_Chain_ok n_Chain hown hK hP hD hS 0 rfl rfl 9 (by decide) (hT _ k_81) (fun _ h9 => h9) rfl hin rfl (by decide +kernel) rfl rfl (Nat.le_of_ble_eq_true rfl) d_Chain_init_52 (fun H locs hP hD hS => ?_)
  have hP : va_P (dC, dI) cl_all [(h0, .inr (5, [.null, .null, .ref q_1, .ref q_4, .int 0, .int 0, .ref q_6, .null, .ref q_8, .ref q_10, .int 0, .null, .int 0, .null, .int 0, .int 0, .null])), (q_1, .inr (8, [.ref q_3])), (q_3, .inr (10, [.int 0, .ref z.1, .int 0])), (q_4, .inl (e_5, 256, .inr (.inr (.inr (.inr (fun _ => none)))))), (q_6, .inr (10, [.int 0, .ref z.1, .int 0])), (q_8, .inl (e_9, 1024, .inl (fun _ => 0))), (q_10, .inl (e_11, 256, .inr (.inr (.inr (.inr (fun _ => none))))))] H := hP
  have hD : va_D A [(h0, .inr (5, [.null, .null, .ref q_1, .ref q_4, .int 0, .int 0, .ref q_6, .null, .ref q_8, .ref q_10, .int 0, .null, .int 0, .null, .int 0, .int 0, .null])), (q_1, .inr (8, [.ref q_3])), (q_3, .inr (10, [.int 0, .ref z.1, .int 0])), (q_4, .inl (e_5, 256, .inr (.inr (.inr (.inr (fun _ => none)))))), (q_6, .inr (10, [.int 0, .ref z.1, .int 0])), (q_8, .inl (e_9, 1024, .inl (fun _ => 0))), (q_10, .inl (e_11, 256, .inr (.inr (.inr (.inr (fun _ => none))))))] := hD
  refine lv_aload_n hx hb d_Chain_init_55 rfl (lv_at hl 0 rfl) ?_
  refine lv_sipush (v := 256) hx hb d_Chain_init_56 (by decide) ?_
  refine va_newq (C := "ChainLedger$Block") hx hb hown (hT _ k_75) (zz_N hZ).2.1 hK hP hD hS hA (by decide) (N' := 256) (by decide) (by decide) (Nat.le_of_ble_eq_true rfl) (Nat.le_of_ble_eq_true rfl) d_Chain_init_59 (fun q_12 e_13 H hK hP hD hS => ?_)
  have hK : va_K (dC, dI) cl_all [(e_5, .object "ChainLedger$Block"), (e_9, .byte), (e_11, .object "ChainLedger$Block"), (e_13, .object "ChainLedger$Block")] s := hK
  have hP : va_P (dC, dI) cl_all [(h0, .inr (5, [.null, .null, .ref q_1, .ref q_4, .int 0, .int 0, .ref q_6, .null, .ref q_8, .ref q_10, .int 0, .null, .int 0, .null, .int 0, .int 0, .null])), (q_1, .inr (8, [.ref q_3])), (q_3, .inr (10, [.int 0, .ref z.1, .int 0])), (q_4, .inl (e_5, 256, .inr (.inr (.inr (.inr (fun _ => none)))))), (q_6, .inr (10, [.int 0, .ref z.1, .int 0])), (q_8, .inl (e_9, 1024, .inl (fun _ => 0))), (q_10, .inl (e_11, 256, .inr (.inr (.inr (.inr (fun _ => none)))))), (q_12, .inl (e_13, 256, .inr (.inr (.inr (.inr (fun _ => none))))))] H := hP
  have hD : va_D A [(h0, .inr (5, [.null, .null, .ref q_1, .ref q_4, .int 0, .int 0, .ref q_6, .null, .ref q_8, .ref q_10, .int 0, .null, .int 0, .null, .int 0, .int 0, .null])), (q_1, .inr (8, [.ref q_3])), (q_3, .inr (10, [.int 0, .ref z.1, .int 0])), (q_4, .inl (e_5, 256, .inr (.inr (.inr (.inr (fun _ => none)))))), (q_6, .inr (10, [.int 0, .ref z.1, .int 0])), (q_8, .inl (e_9, 1024, .inl (fun _ => 0))), (q_10, .inl (e_11, 256, .inr (.inr (.inr (.inr (fun _ => none)))))), (q_12, .inl (e_13, 256, .inr (.inr (.inr (.inr (fun _ => none))))))] := hD
  refine W.widen (k := 7) (n := 1799) (Nat.le_of_ble_eq_true rfl) (Nat.le_of_ble_eq_true rfl) ?_
  refine va_putF (D := (dC, dI)) (ci := 5) (v := .ref q_12) (ty := .array (.object "ChainLedger$Block")) (C := R_Chain) (T := F_Chain) (N := 17) hx hb hT i_Chain t_Chain t_Chain_ok n_Chain hown hK hP hD hS 0 rfl rfl 11 (by decide) (hT _ k_82) (fun _ h9 => h9) rfl hin rfl (by decide +kernel) rfl rfl (Nat.le_of_ble_eq_true rfl) d_Chain_init_62 (fun H locs hP hD hS => ?_)
  have hP : va_P (dC, dI) cl_all [(h0, .inr (5, [.null, .null, .ref q_1, .ref q_4, .int 0, .int 0, .ref q_6, .null, .ref q_8, .ref q_10, .int 0, .ref q_12, .int 0, .null, .int 0, .int 0, .null])), (q_1, .inr (8, [.ref q_3])), (q_3, .inr (10, [.int 0, .ref z.1, .int 0])), (q_4, .inl (e_5, 256, .inr (.inr (.inr (.inr (fun _ => none)))))), (q_6, .inr (10, [.int 0, .ref z.1, .int 0])), (q_8, .inl (e_9, 1024, .inl (fun _ => 0))), (q_10, .inl (e_11, 256, .inr (.inr (.inr (.inr (fun _ => none)))))), (q_12, .inl (e_13, 256, .inr (.inr (.inr (.inr (fun _ => none))))))] H := hP
  have hD : va_D A [(h0, .inr (5, [.null, .null, .ref q_1, .ref q_4, .int 0, .int 0, .ref q_6, .null, .ref q_8, .ref q_10, .int 0, .ref q_12, .int 0, .null, .int 0, .int 0, .null])), (q_1, .inr (8, [.ref q_3])), (q_3, .inr (10, [.int 0, .ref z.1, .int 0])), (q_4, .inl (e_5, 256, .inr (.inr (.inr (.inr (fun _ => none)))))), (q_6, .inr (10, [.int 0, .ref z.1, .int 0])), (q_8, .inl (e_9, 1024, .inl (fun _ => 0))), (q_10, .inl (e_11, 256, .inr (.inr (.inr (.inr (fun _ => none)))))), (q_12, .inl (e_13, 256, .inr (.inr (.inr (.inr (fun _ => none))))))] := hD
  refine lv_aload_n hx hb d_Chain_init_65 rfl (lv_at hl 0 rfl) ?_
  refine lv_bipush (v := 7) hx hb d_Chain_init_66 (by decide) ?_
  refine va_newa (atype := .int) (a0 := (7, .inl (fun _ => 0))) hx hb (hT _ k_18) (ty := .int) rfl hK hP hD hS hA (fun _ => rfl) (by decide) (N' := 7) (by decide) (by decide) (Nat.le_of_ble_eq_true rfl) (Nat.le_of_ble_eq_true rfl) d_Chain_init_68 (fun q_14 e_15 H hK hP hD hS => ?_)
  have hK : va_K (dC, dI) cl_all [(e_5, .object "ChainLedger$Block"), (e_9, .byte), (e_11, .object "ChainLedger$Block"), (e_13, .object "ChainLedger$Block"), (e_15, .int)] s := hK
  have hP : va_P (dC, dI) cl_all [(h0, .inr (5, [.null, .null, .ref q_1, .ref q_4, .int 0, .int 0, .ref q_6, .null, .ref q_8, .ref q_10, .int 0, .ref q_12, .int 0, .null, .int 0, .int 0, .null])), (q_1, .inr (8, [.ref q_3])), (q_3, .inr (10, [.int 0, .ref z.1, .int 0])), (q_4, .inl (e_5, 256, .inr (.inr (.inr (.inr (fun _ => none)))))), (q_6, .inr (10, [.int 0, .ref z.1, .int 0])), (q_8, .inl (e_9, 1024, .inl (fun _ => 0))), (q_10, .inl (e_11, 256, .inr (.inr (.inr (.inr (fun _ => none)))))), (q_12, .inl (e_13, 256, .inr (.inr (.inr (.inr (fun _ => none)))))), (q_14, .inl (e_15, 7, .inl (fun _ => 0)))] H := hP
  have hD : va_D A [(h0, .inr (5, [.null, .null, .ref q_1, .ref q_4, .int 0, .int 0, .ref q_6, .null, .ref q_8, .ref q_10, .int 0, .ref q_12, .int 0, .null, .int 0, .int 0, .null])), (q_1, .inr (8, [.ref q_3])), (q_3, .inr (10, [.int 0, .ref z.1, .int 0])), (q_4, .inl (e_5, 256, .inr (.inr (.inr (.inr (fun _ => none)))))), (q_6, .inr (10, [.int 0, .ref z.1, .int 0])), (q_8, .inl (e_9, 1024, .inl (fun _ => 0))), (q_10, .inl (e_11, 256, .inr (.inr (.inr (.inr (fun _ => none)))))), (q_12, .inl (e_13, 256, .inr (.inr (.inr (.inr (fun _ => none)))))), (q_14, .inl (e_15, 7, .inl (fun _ => 0)))] := hD
  refine W.widen (k := 8) (n := 1806) (Nat.le_of_ble_eq_true rfl) (Nat.le_of_ble_eq_true rfl) ?_
  refine va_putF (D := (dC, dI)) (ci := 5) (v := .ref q_14) (ty := .array (.int)) (C := R_Chain) (T := F_Chain) (N := 17) hx hb hT i_Chain t_Chain t_Chain_ok n_Chain hown hK hP hD hS 0 rfl rfl 13 (by decide) (hT _ k_83) (fun _ h9 => h9) rfl hin rfl (by decide +kernel) rfl rfl (Nat.le_of_ble_eq_true rfl) d_Chain_init_70 (fun H locs hP hD hS => ?_)
  have hP : va_P (dC, dI) cl_all [(h0, .inr (5, [.null, .null, .ref q_1, .ref q_4, .int 0, .int 0, .ref q_6, .null, .ref q_8, .ref q_10, .int 0, .ref q_12, .int 0, .ref q_14, .int 0, .int 0, .null])), (q_1, .inr (8, [.ref q_3])), (q_3, .inr (10, [.int 0, .ref z.1, .int 0])), (q_4, .inl (e_5, 256, .inr (.inr (.inr (.inr (fun _ => none)))))), (q_6, .inr (10, [.int 0, .ref z.1, .int 0])), (q_8, .inl (e_9, 1024, .inl (fun _ => 0))), (q_10, .inl (e_11, 256, .inr (.inr (.inr (.inr (fun _ => none)))))), (q_12, .inl (e_13, 256, .inr (.inr (.inr (.inr (fun _ => none)))))), (q_14, .inl (e_15, 7, .inl (fun _ => 0)))] H := hP
  have hD : va_D A [(h0, .inr (5, [.null, .null, .ref q_1, .ref q_4, .int 0, .int 0, .ref q_6, .null, .ref q_8, .ref q_10, .int 0, .ref q_12, .int 0, .ref q_14, .int 0, .int 0, .null])), (q_1, .inr (8, [.ref q_3])), (q_3, .inr (10, [.int 0, .ref z.1, .int 0])), (q_4, .inl (e_5, 256, .inr (.inr (.inr (.inr (fun _ => none)))))), (q_6, .inr (10, [.int 0, .ref z.1, .int 0])), (q_8, .inl (e_9, 1024, .inl (fun _ => 0))), (q_10, .inl (e_11, 256, .inr (.inr (.inr (.inr (fun _ => none)))))), (q_12, .inl (e_13, 256, .inr (.inr (.inr (.inr (fun _ => none)))))), (q_14, .inl (e_15, 7, .inl (fun _ => 0)))] := hD
  refine lv_aload_n hx hb d_Chain_init_73 rfl (lv_at hl 0 rfl) ?_
  refine lv_aload_n hx hb d_Chain_init_74 rfl (lv_at hl 1 rfl) ?_
  refine va_putF (D := (dC, dI)) (ci := 5) (v := .ref h1) (ty := .object "ChainLedger$Sha") (C := R_Chain) (T := F_Chain) (N := 17) hx hb hT i_Chain t_Chain t_Chain_ok n_Chain hown hK hP hD hS 0 rfl rfl 0 (by decide) (hT _ k_84) (fun _ h9 => h9) rfl hin rfl (by decide +kernel) rfl rfl (Nat.le_of_ble_eq_true rfl) d_Chain_init_75 (fun H locs hP hD hS => ?_)
  have hP : va_P (dC, dI) cl_all [(h0, .inr (5, [.ref h1, .null, .ref q_1, .ref q_4, .int 0, .int 0, .ref q_6, .null, .ref q_8, .ref q_10, .int 0, .ref q_12, .int 0, .ref q_14, .int 0, .int 0, .null])), (q_1, .inr (8, [.ref q_3])), (q_3, .inr (10, [.int 0, .ref z.1, .int 0])), (q_4, .inl (e_5, 256, .inr (.inr (.inr (.inr (fun _ => none)))))), (q_6, .inr (10, [.int 0, .ref z.1, .int 0])), (q_8, .inl (e_9, 1024, .inl (fun _ => 0))), (q_10, .inl (e_11, 256, .inr (.inr (.inr (.inr (fun _ => none)))))), (q_12, .inl (e_13, 256, .inr (.inr (.inr (.inr (fun _ => none)))))), (q_14, .inl (e_15, 7, .inl (fun _ => 0)))] H := hP
  have hD : va_D A [(h0, .inr (5, [.ref h1, .null, .ref q_1, .ref q_4, .int 0, .int 0, .ref q_6, .null, .ref q_8, .ref q_10, .int 0, .ref q_12, .int 0, .ref q_14, .int 0, .int 0, .null])), (q_1, .inr (8, [.ref q_3])), (q_3, .inr (10, [.int 0, .ref z.1, .int 0])), (q_4, .inl (e_5, 256, .inr (.inr (.inr (.inr (fun _ => none)))))), (q_6, .inr (10, [.int 0, .ref z.1, .int 0])), (q_8, .inl (e_9, 1024, .inl (fun _ => 0))), (q_10, .inl (e_11, 256, .inr (.inr (.inr (.inr (fun _ => none)))))), (q_12, .inl (e_13, 256, .inr (.inr (.inr (.inr (fun _ => none)))))), (q_14, .inl (e_15, 7, .inl (fun _ => 0)))] := hD
  refine lv_aload_n hx hb d_Chain_init_78 rfl (lv_at hl 0 rfl) ?_
  refine lv_aload_n hx hb d_Chain_init_79 rfl (lv_at hl 2 rfl) ?_
  refine va_putF (D := (dC, dI)) (ci := 5) (v := .ref h2) (ty := .object "ChainLedger$Judge") (C := R_Chain) (T := F_Chain) (N := 17) hx hb hT i_Chain t_Chain t_Chain_ok n_Chain hown hK hP hD hS 0 rfl rfl 1 (by decide) (hT _ k_85) (fun _ h9 => h9) rfl hin rfl (by decide +kernel) rfl rfl (Nat.le_of_ble_eq_true rfl) d_Chain_init_80 (fun H locs hP hD hS => ?_)
  have hP : va_P (dC, dI) cl_all [(h0, .inr (5, [.ref h1, .ref h2, .ref q_1, .ref q_4, .int 0, .int 0, .ref q_6, .null, .ref q_8, .ref q_10, .int 0, .ref q_12, .int 0, .ref q_14, .int 0, .int 0, .null])), (q_1, .inr (8, [.ref q_3])), (q_3, .inr (10, [.int 0, .ref z.1, .int 0])), (q_4, .inl (e_5, 256, .inr (.inr (.inr (.inr (fun _ => none)))))), (q_6, .inr (10, [.int 0, .ref z.1, .int 0])), (q_8, .inl (e_9, 1024, .inl (fun _ => 0))), (q_10, .inl (e_11, 256, .inr (.inr (.inr (.inr (fun _ => none)))))), (q_12, .inl (e_13, 256, .inr (.inr (.inr (.inr (fun _ => none)))))), (q_14, .inl (e_15, 7, .inl (fun _ => 0)))] H := hP
  have hD : va_D A [(h0, .inr (5, [.ref h1, .ref h2, .ref q_1, .ref q_4, .int 0, .int 0, .ref q_6, .null, .ref q_8, .ref q_10, .int 0, .ref q_12, .int 0, .ref q_14, .int 0, .int 0, .null])), (q_1, .inr (8, [.ref q_3])), (q_3, .inr (10, [.int 0, .ref z.1, .int 0])), (q_4, .inl (e_5, 256, .inr (.inr (.inr (.inr (fun _ => none)))))), (q_6, .inr (10, [.int 0, .ref z.1, .int 0])), (q_8, .inl (e_9, 1024, .inl (fun _ => 0))), (q_10, .inl (e_11, 256, .inr (.inr (.inr (.inr (fun _ => none)))))), (q_12, .inl (e_13, 256, .inr (.inr (.inr (.inr (fun _ => none)))))), (q_14, .inl (e_15, 7, .inl (fun _ => 0)))] := hD
  refine va_new (ci := 6) (fs := [.null, .int 0, .null, .int 0, .int 0, .int 0, .null, .int 0, .null, .int 0, .int 0, .long 0, .int 0, .int 0, .int 0, .int 0, .null]) (C := R_Block) (T := F_Block) (N := 17) hx hb hT i_Block t_Block t_Block_ok hown (hT _ k_86) (hT _ k_87) (hT _ k_88) hK hP hD hS hA rfl (fun j hj => df_Block j hj) (Nat.le_of_ble_eq_true rfl) (Nat.le_of_ble_eq_true rfl) d_Chain_init_83 (fun q_16 H hP hD hS => ?_)
  have hP : va_P (dC, dI) cl_all [(h0, .inr (5, [.ref h1, .ref h2, .ref q_1, .ref q_4, .int 0, .int 0, .ref q_6, .null, .ref q_8, .ref q_10, .int 0, .ref q_12, .int 0, .ref q_14, .int 0, .int 0, .null])), (q_1, .inr (8, [.ref q_3])), (q_3, .inr (10, [.int 0, .ref z.1, .int 0])), (q_4, .inl (e_5, 256, .inr (.inr (.inr (.inr (fun _ => none)))))), (q_6, .inr (10, [.int 0, .ref z.1, .int 0])), (q_8, .inl (e_9, 1024, .inl (fun _ => 0))), (q_10, .inl (e_11, 256, .inr (.inr (.inr (.inr (fun _ => none)))))), (q_12, .inl (e_13, 256, .inr (.inr (.inr (.inr (fun _ => none)))))), (q_14, .inl (e_15, 7, .inl (fun _ => 0))), (q_16, .inr (6, [.null, .int 0, .null, .int 0, .int 0, .int 0, .null, .int 0, .null, .int 0, .int 0, .long 0, .int 0, .int 0, .int 0, .int 0, .null]))] H := hP
  have hD : va_D A [(h0, .inr (5, [.ref h1, .ref h2, .ref q_1, .ref q_4, .int 0, .int 0, .ref q_6, .null, .ref q_8, .ref q_10, .int 0, .ref q_12, .int 0, .ref q_14, .int 0, .int 0, .null])), (q_1, .inr (8, [.ref q_3])), (q_3, .inr (10, [.int 0, .ref z.1, .int 0])), (q_4, .inl (e_5, 256, .inr (.inr (.inr (.inr (fun _ => none)))))), (q_6, .inr (10, [.int 0, .ref z.1, .int 0])), (q_8, .inl (e_9, 1024, .inl (fun _ => 0))), (q_10, .inl (e_11, 256, .inr (.inr (.inr (.inr (fun _ => none)))))), (q_12, .inl (e_13, 256, .inr (.inr (.inr (.inr (fun _ => none)))))), (q_14, .inl (e_15, 7, .inl (fun _ => 0))), (q_16, .inr (6, [.null, .int 0, .null, .int 0, .int 0, .int 0, .null, .int 0, .null, .int 0, .int 0, .long 0, .int 0, .int 0, .int 0, .int 0, .null]))] := hD
  refine W.widen (k := 9) (n := 1823) (Nat.le_of_ble_eq_true rfl) (Nat.le_of_ble_eq_true rfl) ?_
  refine lv_dup hx hb d_Chain_init_86 rfl ?_
  have hPc := hP.sub (ws' := [(q_16, .inr (6, [.null, .int 0, .null, .int 0, .int 0, .int 0, .null, .int 0, .null, .int 0, .int 0, .long 0, .int 0, .int 0, .int 0, .int 0, .null]))]) [9] rfl
  have hDc := hD.sub (ws' := [(q_16, .inr (6, [.null, .int 0, .null, .int 0, .int 0, .int 0, .null, .int 0, .null, .int 0, .int 0, .long 0, .int 0, .int 0, .int 0, .int 0, .null]))]) [9] (by decide) rfl
  have hKc := hK.sub (tys' := []) [] rfl
  have hFc := va_free (wc := [(q_16, .inr (6, [.null, .int 0, .null, .int 0, .int 0, .int 0, .null, .int 0, .null, .int 0, .int 0, .long 0, .int 0, .int 0, .int 0, .int 0, .null]))]) hD hS hA [9] rfl
  refine va_callv (va_runIN (As := []) (rest := [.ref q_16]) ⟨hx, hb, hml, hown, hT⟩ (c_Block_init l dC dI z H.size q_16) ⟨va_cnB (host := "ChainLedger") 0 hT g_Block_init rfl rfl rfl (zn_k_89 (zz_N hZ)) (hT _ k_88) (by decide +kernel) ⟨Nat.le_of_ble_eq_true rfl, Nat.le_of_ble_eq_true rfl⟩, rfl, (hT _ k_90)⟩ (zz_pre hPc hKc hDc hZ hS hFc) rfl rfl hl.1 rfl (lv_room (Nat.le_of_ble_eq_true rfl)) d_Chain_init_87 ⟨Nat.le_of_ble_eq_true rfl, Nat.le_of_ble_eq_true rfl⟩) hS (fun q _ h => hFc q h) hFc (fun u9 t9 H1 locs ht9 hvm9 hw9 hB9 hz19 hk19 hS => ?_)
  obtain ⟨q_18, q_19, q_20, e_21, hP1, hK1, hD1⟩ := hB9
  rw [ht9] at hP1
  have hK := hK.app (va_K.moved hvm9.symm hK1)
  have hK : va_K (dC, dI) cl_all [(e_5, .object "ChainLedger$Block"), (e_9, .byte), (e_11, .object "ChainLedger$Block"), (e_13, .object "ChainLedger$Block"), (e_15, .int), (e_21, .byte)] s := hK
  obtain ⟨hP, hD⟩ := va_join (wr := [(h0, .inr (5, [.ref h1, .ref h2, .ref q_1, .ref q_4, .int 0, .int 0, .ref q_6, .null, .ref q_8, .ref q_10, .int 0, .ref q_12, .int 0, .ref q_14, .int 0, .int 0, .null])), (q_1, .inr (8, [.ref q_3])), (q_3, .inr (10, [.int 0, .ref z.1, .int 0])), (q_4, .inl (e_5, 256, .inr (.inr (.inr (.inr (fun _ => none)))))), (q_6, .inr (10, [.int 0, .ref z.1, .int 0])), (q_8, .inl (e_9, 1024, .inl (fun _ => 0))), (q_10, .inl (e_11, 256, .inr (.inr (.inr (.inr (fun _ => none)))))), (q_12, .inl (e_13, 256, .inr (.inr (.inr (.inr (fun _ => none)))))), (q_14, .inl (e_15, 7, .inl (fun _ => 0)))]) (w1 := [(q_16, .inr (6, [.null, .int 0, .ref q_18, .int 0, .int 0, .int 0, .ref q_19, .int 0, .null, .int 0, .int 0, .long 0, .int 0, .int 0, .int 0, .int 0, .ref q_20])), (q_18, .inl (e_21, 32, .inl (fun _ => 0)))]) hP hD [9] [0, 1, 2, 3, 4, 5, 6, 7, 8] rfl rfl (by decide) (by decide) hk19 hFc hP1 hD1
  generalize H1 = H at hP hS ⊢
  have hP : va_P (dC, dI) cl_all [(h0, .inr (5, [.ref h1, .ref h2, .ref q_1, .ref q_4, .int 0, .int 0, .ref q_6, .null, .ref q_8, .ref q_10, .int 0, .ref q_12, .int 0, .ref q_14, .int 0, .int 0, .null])), (q_1, .inr (8, [.ref q_3])), (q_3, .inr (10, [.int 0, .ref z.1, .int 0])), (q_4, .inl (e_5, 256, .inr (.inr (.inr (.inr (fun _ => none)))))), (q_6, .inr (10, [.int 0, .ref z.1, .int 0])), (q_8, .inl (e_9, 1024, .inl (fun _ => 0))), (q_10, .inl (e_11, 256, .inr (.inr (.inr (.inr (fun _ => none)))))), (q_12, .inl (e_13, 256, .inr (.inr (.inr (.inr (fun _ => none)))))), (q_14, .inl (e_15, 7, .inl (fun _ => 0))), (q_16, .inr (6, [.null, .int 0, .ref q_18, .int 0, .int 0, .int 0, .ref q_19, .int 0, .null, .int 0, .int 0, .long 0, .int 0, .int 0, .int 0, .int 0, .ref q_20])), (q_18, .inl (e_21, 32, .inl (fun _ => 0)))] H := hP
  have hD : va_D A [(h0, .inr (5, [.ref h1, .ref h2, .ref q_1, .ref q_4, .int 0, .int 0, .ref q_6, .null, .ref q_8, .ref q_10, .int 0, .ref q_12, .int 0, .ref q_14, .int 0, .int 0, .null])), (q_1, .inr (8, [.ref q_3])), (q_3, .inr (10, [.int 0, .ref z.1, .int 0])), (q_4, .inl (e_5, 256, .inr (.inr (.inr (.inr (fun _ => none)))))), (q_6, .inr (10, [.int 0, .ref z.1, .int 0])), (q_8, .inl (e_9, 1024, .inl (fun _ => 0))), (q_10, .inl (e_11, 256, .inr (.inr (.inr (.inr (fun _ => none)))))), (q_12, .inl (e_13, 256, .inr (.inr (.inr (.inr (fun _ => none)))))), (q_14, .inl (e_15, 7, .inl (fun _ => 0))), (q_16, .inr (6, [.null, .int 0, .ref q_18, .int 0, .int 0, .int 0, .ref q_19, .int 0, .null, .int 0, .int 0, .long 0, .int 0, .int 0, .int 0, .int 0, .ref q_20])), (q_18, .inl (e_21, 32, .inl (fun _ => 0)))] := hD
  refine W.widen (k := 12) (n := 1890) (Nat.le_of_ble_eq_true rfl) (Nat.le_of_ble_eq_true rfl) ?_
  refine lv_astore_n (lv' := [(3, .ref q_16), (0, .ref h0), (1, .ref h1), (2, .ref h2)]) hx hb d_Chain_init_90 rfl hl (by decide) rfl (fun ls hl => ?_)
  refine lv_aload_n hx hb d_Chain_init_91 rfl (lv_at hl 0 rfl) ?_
  refine lv_ldc hx hb hown (hT _ k_91) d_Chain_init_92 ?_
  refine va_put (D := (dC, dI)) (ci := 6) (v := .int 32768) (ty := .int) (C := R_Block) (T := F_Block) (N := 17) hx hb hT i_Block t_Block t_Block_ok n_Block hown hK hP hD hS 9 rfl rfl 4 (by decide) (hT _ k_92) (fun _ h9 => h9) rfl (by decide +kernel) rfl rfl (Nat.le_of_ble_eq_true rfl) d_Chain_init_94 (fun H locs hP hD hS => ?_)
  have hP : va_P (dC, dI) cl_all [(h0, .inr (5, [.ref h1, .ref h2, .ref q_1, .ref q_4, .int 0, .int 0, .ref q_6, .null, .ref q_8, .ref q_10, .int 0, .ref q_12, .int 0, .ref q_14, .int 0, .int 0, .null])), (q_1, .inr (8, [.ref q_3])), (q_3, .inr (10, [.int 0, .ref z.1, .int 0])), (q_4, .inl (e_5, 256, .inr (.inr (.inr (.inr (fun _ => none)))))), (q_6, .inr (10, [.int 0, .ref z.1, .int 0])), (q_8, .inl (e_9, 1024, .inl (fun _ => 0))), (q_10, .inl (e_11, 256, .inr (.inr (.inr (.inr (fun _ => none)))))), (q_12, .inl (e_13, 256, .inr (.inr (.inr (.inr (fun _ => none)))))), (q_14, .inl (e_15, 7, .inl (fun _ => 0))), (q_16, .inr (6, [.null, .int 0, .ref q_18, .int 0, .int 32768, .int 0, .ref q_19, .int 0, .null, .int 0, .int 0, .long 0, .int 0, .int 0, .int 0, .int 0, .ref q_20])), (q_18, .inl (e_21, 32, .inl (fun _ => 0)))] H := hP
  have hD : va_D A [(h0, .inr (5, [.ref h1, .ref h2, .ref q_1, .ref q_4, .int 0, .int 0, .ref q_6, .null, .ref q_8, .ref q_10, .int 0, .ref q_12, .int 0, .ref q_14, .int 0, .int 0, .null])), (q_1, .inr (8, [.ref q_3])), (q_3, .inr (10, [.int 0, .ref z.1, .int 0])), (q_4, .inl (e_5, 256, .inr (.inr (.inr (.inr (fun _ => none)))))), (q_6, .inr (10, [.int 0, .ref z.1, .int 0])), (q_8, .inl (e_9, 1024, .inl (fun _ => 0))), (q_10, .inl (e_11, 256, .inr (.inr (.inr (.inr (fun _ => none)))))), (q_12, .inl (e_13, 256, .inr (.inr (.inr (.inr (fun _ => none)))))), (q_14, .inl (e_15, 7, .inl (fun _ => 0))), (q_16, .inr (6, [.null, .int 0, .ref q_18, .int 0, .int 32768, .int 0, .ref q_19, .int 0, .null, .int 0, .int 0, .long 0, .int 0, .int 0, .int 0, .int 0, .ref q_20])), (q_18, .inl (e_21, 32, .inl (fun _ => 0)))] := hD
  refine lv_aload_n hx hb d_Chain_init_97 rfl (lv_at hl 0 rfl) ?_
  refine lv_iconst (v := 1) hx hb d_Chain_init_98 (by decide) ?_
  refine va_put (D := (dC, dI)) (ci := 6) (v := .int 1) (ty := .boolean) (C := R_Block) (T := F_Block) (N := 17) hx hb hT i_Block t_Block t_Block_ok n_Block hown hK hP hD hS 9 rfl rfl 12 (by decide) (hT _ k_93) (fun _ h9 => h9) rfl (by decide +kernel) (by decide) (by decide) (Nat.le_of_ble_eq_true rfl) d_Chain_init_99 (fun H locs hP hD hS => ?_)
  have hP : va_P (dC, dI) cl_all [(h0, .inr (5, [.ref h1, .ref h2, .ref q_1, .ref q_4, .int 0, .int 0, .ref q_6, .null, .ref q_8, .ref q_10, .int 0, .ref q_12, .int 0, .ref q_14, .int 0, .int 0, .null])), (q_1, .inr (8, [.ref q_3])), (q_3, .inr (10, [.int 0, .ref z.1, .int 0])), (q_4, .inl (e_5, 256, .inr (.inr (.inr (.inr (fun _ => none)))))), (q_6, .inr (10, [.int 0, .ref z.1, .int 0])), (q_8, .inl (e_9, 1024, .inl (fun _ => 0))), (q_10, .inl (e_11, 256, .inr (.inr (.inr (.inr (fun _ => none)))))), (q_12, .inl (e_13, 256, .inr (.inr (.inr (.inr (fun _ => none)))))), (q_14, .inl (e_15, 7, .inl (fun _ => 0))), (q_16, .inr (6, [.null, .int 0, .ref q_18, .int 0, .int 32768, .int 0, .ref q_19, .int 0, .null, .int 0, .int 0, .long 0, .int 1, .int 0, .int 0, .int 0, .ref q_20])), (q_18, .inl (e_21, 32, .inl (fun _ => 0)))] H := hP
  have hD : va_D A [(h0, .inr (5, [.ref h1, .ref h2, .ref q_1, .ref q_4, .int 0, .int 0, .ref q_6, .null, .ref q_8, .ref q_10, .int 0, .ref q_12, .int 0, .ref q_14, .int 0, .int 0, .null])), (q_1, .inr (8, [.ref q_3])), (q_3, .inr (10, [.int 0, .ref z.1, .int 0])), (q_4, .inl (e_5, 256, .inr (.inr (.inr (.inr (fun _ => none)))))), (q_6, .inr (10, [.int 0, .ref z.1, .int 0])), (q_8, .inl (e_9, 1024, .inl (fun _ => 0))), (q_10, .inl (e_11, 256, .inr (.inr (.inr (.inr (fun _ => none)))))), (q_12, .inl (e_13, 256, .inr (.inr (.inr (.inr (fun _ => none)))))), (q_14, .inl (e_15, 7, .inl (fun _ => 0))), (q_16, .inr (6, [.null, .int 0, .ref q_18, .int 0, .int 32768, .int 0, .ref q_19, .int 0, .null, .int 0, .int 0, .long 0, .int 1, .int 0, .int 0, .int 0, .ref q_20])), (q_18, .inl (e_21, 32, .inl (fun _ => 0)))] := hD
  refine lv_aload_n hx hb d_Chain_init_102 rfl (lv_at hl 0 rfl) ?_
  refine lv_iconst (v := 1) hx hb d_Chain_init_103 (by decide) ?_
  refine va_put (D := (dC, dI)) (ci := 6) (v := .int 1) (ty := .boolean) (C := R_Block) (T := F_Block) (N := 17) hx hb hT i_Block t_Block t_Block_ok n_Block hown hK hP hD hS 9 rfl rfl 14 (by decide) (hT _ k_94) (fun _ h9 => h9) rfl (by decide +kernel) (by decide) (by decide) (Nat.le_of_ble_eq_true rfl) d_Chain_init_104 (fun H locs hP hD hS => ?_)
  have hP : va_P (dC, dI) cl_all [(h0, .inr (5, [.ref h1, .ref h2, .ref q_1, .ref q_4, .int 0, .int 0, .ref q_6, .null, .ref q_8, .ref q_10, .int 0, .ref q_12, .int 0, .ref q_14, .int 0, .int 0, .null])), (q_1, .inr (8, [.ref q_3])), (q_3, .inr (10, [.int 0, .ref z.1, .int 0])), (q_4, .inl (e_5, 256, .inr (.inr (.inr (.inr (fun _ => none)))))), (q_6, .inr (10, [.int 0, .ref z.1, .int 0])), (q_8, .inl (e_9, 1024, .inl (fun _ => 0))), (q_10, .inl (e_11, 256, .inr (.inr (.inr (.inr (fun _ => none)))))), (q_12, .inl (e_13, 256, .inr (.inr (.inr (.inr (fun _ => none)))))), (q_14, .inl (e_15, 7, .inl (fun _ => 0))), (q_16, .inr (6, [.null, .int 0, .ref q_18, .int 0, .int 32768, .int 0, .ref q_19, .int 0, .null, .int 0, .int 0, .long 0, .int 1, .int 0, .int 1, .int 0, .ref q_20])), (q_18, .inl (e_21, 32, .inl (fun _ => 0)))] H := hP
  have hD : va_D A [(h0, .inr (5, [.ref h1, .ref h2, .ref q_1, .ref q_4, .int 0, .int 0, .ref q_6, .null, .ref q_8, .ref q_10, .int 0, .ref q_12, .int 0, .ref q_14, .int 0, .int 0, .null])), (q_1, .inr (8, [.ref q_3])), (q_3, .inr (10, [.int 0, .ref z.1, .int 0])), (q_4, .inl (e_5, 256, .inr (.inr (.inr (.inr (fun _ => none)))))), (q_6, .inr (10, [.int 0, .ref z.1, .int 0])), (q_8, .inl (e_9, 1024, .inl (fun _ => 0))), (q_10, .inl (e_11, 256, .inr (.inr (.inr (.inr (fun _ => none)))))), (q_12, .inl (e_13, 256, .inr (.inr (.inr (.inr (fun _ => none)))))), (q_14, .inl (e_15, 7, .inl (fun _ => 0))), (q_16, .inr (6, [.null, .int 0, .ref q_18, .int 0, .int 32768, .int 0, .ref q_19, .int 0, .null, .int 0, .int 0, .long 0, .int 1, .int 0, .int 1, .int 0, .ref q_20])), (q_18, .inl (e_21, 32, .inl (fun _ => 0)))] := hD
  refine lv_aload_n hx hb d_Chain_init_107 rfl (lv_at hl 1 rfl) ?_
  refine va_get (D := (dC, dI)) (ci := 5) (v := .ref q_4) (C := R_Chain) (T := F_Chain) (N := 17) hx hb hT i_Chain hown hK hP 0 rfl rfl 3 (by decide) (hT _ k_76) (fun _ h9 => h9) rfl d_Chain_init_108 ?_
  refine lv_iconst (v := 0) hx hb d_Chain_init_111 (by decide) ?_
  refine lv_aload_n hx hb d_Chain_init_112 rfl (lv_at hl 0 rfl) ?_
  refine va_astq hx hb hK hP hD hS 3 0 9 6 rfl rfl rfl rfl (by unfold vp_in; decide) d_Chain_init_113 (fun H locs hP hD hS => ?_)
  have hP : va_P (dC, dI) cl_all [(h0, .inr (5, [.ref h1, .ref h2, .ref q_1, .ref q_4, .int 0, .int 0, .ref q_6, .null, .ref q_8, .ref q_10, .int 0, .ref q_12, .int 0, .ref q_14, .int 0, .int 0, .null])), (q_1, .inr (8, [.ref q_3])), (q_3, .inr (10, [.int 0, .ref z.1, .int 0])), (q_4, .inl (e_5, 256, .inr (.inr (.inr (.inr (va_up (fun _ => none) (0 : Int32).toNatClampNeg (some q_16))))))), (q_6, .inr (10, [.int 0, .ref z.1, .int 0])), (q_8, .inl (e_9, 1024, .inl (fun _ => 0))), (q_10, .inl (e_11, 256, .inr (.inr (.inr (.inr (fun _ => none)))))), (q_12, .inl (e_13, 256, .inr (.inr (.inr (.inr (fun _ => none)))))), (q_14, .inl (e_15, 7, .inl (fun _ => 0))), (q_16, .inr (6, [.null, .int 0, .ref q_18, .int 0, .int 32768, .int 0, .ref q_19, .int 0, .null, .int 0, .int 0, .long 0, .int 1, .int 0, .int 1, .int 0, .ref q_20])), (q_18, .inl (e_21, 32, .inl (fun _ => 0)))] H := hP
  have hD : va_D A [(h0, .inr (5, [.ref h1, .ref h2, .ref q_1, .ref q_4, .int 0, .int 0, .ref q_6, .null, .ref q_8, .ref q_10, .int 0, .ref q_12, .int 0, .ref q_14, .int 0, .int 0, .null])), (q_1, .inr (8, [.ref q_3])), (q_3, .inr (10, [.int 0, .ref z.1, .int 0])), (q_4, .inl (e_5, 256, .inr (.inr (.inr (.inr (va_up (fun _ => none) (0 : Int32).toNatClampNeg (some q_16))))))), (q_6, .inr (10, [.int 0, .ref z.1, .int 0])), (q_8, .inl (e_9, 1024, .inl (fun _ => 0))), (q_10, .inl (e_11, 256, .inr (.inr (.inr (.inr (fun _ => none)))))), (q_12, .inl (e_13, 256, .inr (.inr (.inr (.inr (fun _ => none)))))), (q_14, .inl (e_15, 7, .inl (fun _ => 0))), (q_16, .inr (6, [.null, .int 0, .ref q_18, .int 0, .int 32768, .int 0, .ref q_19, .int 0, .null, .int 0, .int 0, .long 0, .int 1, .int 0, .int 1, .int 0, .ref q_20])), (q_18, .inl (e_21, 32, .inl (fun _ => 0)))] := hD
  refine lv_aload_n hx hb d_Chain_init_114 rfl (lv_at hl 1 rfl) ?_
  refine lv_iconst (v := 1) hx hb d_Chain_init_115 (by decide) ?_
  refine va_put (D := (dC, dI)) (ci := 5) (v := .int 1) (ty := .int) (C := R_Chain) (T := F_Chain) (N := 17) hx hb hT i_Chain t_Chain t_Chain_ok n_Chain hown hK hP hD hS 0 rfl rfl 4 (by decide) (hT _ k_95) (fun _ h9 => h9) rfl (by decide +kernel) rfl rfl (Nat.le_of_ble_eq_true rfl) d_Chain_init_116 (fun H locs hP hD hS => ?_)
  have hP : va_P (dC, dI) cl_all [(h0, .inr (5, [.ref h1, .ref h2, .ref q_1, .ref q_4, .int 1, .int 0, .ref q_6, .null, .ref q_8, .ref q_10, .int 0, .ref q_12, .int 0, .ref q_14, .int 0, .int 0, .null])), (q_1, .inr (8, [.ref q_3])), (q_3, .inr (10, [.int 0, .ref z.1, .int 0])), (q_4, .inl (e_5, 256, .inr (.inr (.inr (.inr (va_up (fun _ => none) (0 : Int32).toNatClampNeg (some q_16))))))), (q_6, .inr (10, [.int 0, .ref z.1, .int 0])), (q_8, .inl (e_9, 1024, .inl (fun _ => 0))), (q_10, .inl (e_11, 256, .inr (.inr (.inr (.inr (fun _ => none)))))), (q_12, .inl (e_13, 256, .inr (.inr (.inr (.inr (fun _ => none)))))), (q_14, .inl (e_15, 7, .inl (fun _ => 0))), (q_16, .inr (6, [.null, .int 0, .ref q_18, .int 0, .int 32768, .int 0, .ref q_19, .int 0, .null, .int 0, .int 0, .long 0, .int 1, .int 0, .int 1, .int 0, .ref q_20])), (q_18, .inl (e_21, 32, .inl (fun _ => 0)))] H := hP
  have hD : va_D A [(h0, .inr (5, [.ref h1, .ref h2, .ref q_1, .ref q_4, .int 1, .int 0, .ref q_6, .null, .ref q_8, .ref q_10, .int 0, .ref q_12, .int 0, .ref q_14, .int 0, .int 0, .null])), (q_1, .inr (8, [.ref q_3])), (q_3, .inr (10, [.int 0, .ref z.1, .int 0])), (q_4, .inl (e_5, 256, .inr (.inr (.inr (.inr (va_up (fun _ => none) (0 : Int32).toNatClampNeg (some q_16))))))), (q_6, .inr (10, [.int 0, .ref z.1, .int 0])), (q_8, .inl (e_9, 1024, .inl (fun _ => 0))), (q_10, .inl (e_11, 256, .inr (.inr (.inr (.inr (fun _ => none)))))), (q_12, .inl (e_13, 256, .inr (.inr (.inr (.inr (fun _ => none)))))), (q_14, .inl (e_15, 7, .inl (fun _ => 0))), (q_16, .inr (6, [.null, .int 0, .ref q_18, .int 0, .int 32768, .int 0, .ref q_19, .int 0, .null, .int 0, .int 0, .long 0, .int 1, .int 0, .int 1, .int 0, .ref q_20])), (q_18, .inl (e_21, 32, .inl (fun _ => 0)))] := hD
  refine lv_aload_n hx hb d_Chain_init_119 rfl (lv_at hl 1 rfl) ?_
  refine lv_iconst (v := 1) hx hb d_Chain_init_120 (by decide) ?_
  refine va_put (D := (dC, dI)) (ci := 5) (v := .int 1) (ty := .int) (C := R_Chain) (T := F_Chain) (N := 17) hx hb hT i_Chain t_Chain t_Chain_ok n_Chain hown hK hP hD hS 0 rfl rfl 15 (by decide) (hT _ k_96) (fun _ h9 => h9) rfl (by decide +kernel) rfl rfl (Nat.le_of_ble_eq_true rfl) d_Chain_init_121 (fun H locs hP hD hS => ?_)
  have hP : va_P (dC, dI) cl_all [(h0, .inr (5, [.ref h1, .ref h2, .ref q_1, .ref q_4, .int 1, .int 0, .ref q_6, .null, .ref q_8, .ref q_10, .int 0, .ref q_12, .int 0, .ref q_14, .int 0, .int 1, .null])), (q_1, .inr (8, [.ref q_3])), (q_3, .inr (10, [.int 0, .ref z.1, .int 0])), (q_4, .inl (e_5, 256, .inr (.inr (.inr (.inr (va_up (fun _ => none) (0 : Int32).toNatClampNeg (some q_16))))))), (q_6, .inr (10, [.int 0, .ref z.1, .int 0])), (q_8, .inl (e_9, 1024, .inl (fun _ => 0))), (q_10, .inl (e_11, 256, .inr (.inr (.inr (.inr (fun _ => none)))))), (q_12, .inl (e_13, 256, .inr (.inr (.inr (.inr (fun _ => none)))))), (q_14, .inl (e_15, 7, .inl (fun _ => 0))), (q_16, .inr (6, [.null, .int 0, .ref q_18, .int 0, .int 32768, .int 0, .ref q_19, .int 0, .null, .int 0, .int 0, .long 0, .int 1, .int 0, .int 1, .int 0, .ref q_20])), (q_18, .inl (e_21, 32, .inl (fun _ => 0)))] H := hP
  have hD : va_D A [(h0, .inr (5, [.ref h1, .ref h2, .ref q_1, .ref q_4, .int 1, .int 0, .ref q_6, .null, .ref q_8, .ref q_10, .int 0, .ref q_12, .int 0, .ref q_14, .int 0, .int 1, .null])), (q_1, .inr (8, [.ref q_3])), (q_3, .inr (10, [.int 0, .ref z.1, .int 0])), (q_4, .inl (e_5, 256, .inr (.inr (.inr (.inr (va_up (fun _ => none) (0 : Int32).toNatClampNeg (some q_16))))))), (q_6, .inr (10, [.int 0, .ref z.1, .int 0])), (q_8, .inl (e_9, 1024, .inl (fun _ => 0))), (q_10, .inl (e_11, 256, .inr (.inr (.inr (.inr (fun _ => none)))))), (q_12, .inl (e_13, 256, .inr (.inr (.inr (.inr (fun _ => none)))))), (q_14, .inl (e_15, 7, .inl (fun _ => 0))), (q_16, .inr (6, [.null, .int 0, .ref q_18, .int 0, .int 32768, .int 0, .ref q_19, .int 0, .null, .int 0, .int 0, .long 0, .int 1, .int 0, .int 1, .int 0, .ref q_20])), (q_18, .inl (e_21, 32, .inl (fun _ => 0)))] := hD
  refine lv_aload_n hx hb d_Chain_init_124 rfl (lv_at hl 1 rfl) ?_
  refine lv_aload_n hx hb d_Chain_init_125 rfl (lv_at hl 0 rfl) ?_
  refine va_put (D := (dC, dI)) (ci := 5) (v := .ref q_16) (ty := .object "ChainLedger$Block") (C := R_Chain) (T := F_Chain) (N := 17) hx hb hT i_Chain t_Chain t_Chain_ok n_Chain hown hK hP hD hS 0 rfl rfl 7 (by decide) (hT _ k_97) (fun _ h9 => h9) rfl (by decide +kernel) rfl rfl (Nat.le_of_ble_eq_true rfl) d_Chain_init_126 (fun H locs hP hD hS => ?_)
  have hP : va_P (dC, dI) cl_all [(h0, .inr (5, [.ref h1, .ref h2, .ref q_1, .ref q_4, .int 1, .int 0, .ref q_6, .ref q_16, .ref q_8, .ref q_10, .int 0, .ref q_12, .int 0, .ref q_14, .int 0, .int 1, .null])), (q_1, .inr (8, [.ref q_3])), (q_3, .inr (10, [.int 0, .ref z.1, .int 0])), (q_4, .inl (e_5, 256, .inr (.inr (.inr (.inr (va_up (fun _ => none) (0 : Int32).toNatClampNeg (some q_16))))))), (q_6, .inr (10, [.int 0, .ref z.1, .int 0])), (q_8, .inl (e_9, 1024, .inl (fun _ => 0))), (q_10, .inl (e_11, 256, .inr (.inr (.inr (.inr (fun _ => none)))))), (q_12, .inl (e_13, 256, .inr (.inr (.inr (.inr (fun _ => none)))))), (q_14, .inl (e_15, 7, .inl (fun _ => 0))), (q_16, .inr (6, [.null, .int 0, .ref q_18, .int 0, .int 32768, .int 0, .ref q_19, .int 0, .null, .int 0, .int 0, .long 0, .int 1, .int 0, .int 1, .int 0, .ref q_20])), (q_18, .inl (e_21, 32, .inl (fun _ => 0)))] H := hP
  have hD : va_D A [(h0, .inr (5, [.ref h1, .ref h2, .ref q_1, .ref q_4, .int 1, .int 0, .ref q_6, .ref q_16, .ref q_8, .ref q_10, .int 0, .ref q_12, .int 0, .ref q_14, .int 0, .int 1, .null])), (q_1, .inr (8, [.ref q_3])), (q_3, .inr (10, [.int 0, .ref z.1, .int 0])), (q_4, .inl (e_5, 256, .inr (.inr (.inr (.inr (va_up (fun _ => none) (0 : Int32).toNatClampNeg (some q_16))))))), (q_6, .inr (10, [.int 0, .ref z.1, .int 0])), (q_8, .inl (e_9, 1024, .inl (fun _ => 0))), (q_10, .inl (e_11, 256, .inr (.inr (.inr (.inr (fun _ => none)))))), (q_12, .inl (e_13, 256, .inr (.inr (.inr (.inr (fun _ => none)))))), (q_14, .inl (e_15, 7, .inl (fun _ => 0))), (q_16, .inr (6, [.null, .int 0, .ref q_18, .int 0, .int 32768, .int 0, .ref q_19, .int 0, .null, .int 0, .int 0, .long 0, .int 1, .int 0, .int 1, .int 0, .ref q_20])), (q_18, .inl (e_21, 32, .inl (fun _ => 0)))] := hD
  have hP9 := hP.sub (ws' := [(h0, .inr (5, [.ref h1, .ref h2, .ref q_1, .ref q_4, .int 1, .int 0, .ref q_6, .ref q_16, .ref q_8, .ref q_10, .int 0, .ref q_12, .int 0, .ref q_14, .int 0, .int 1, .null])), (q_1, .inr (8, [.ref q_3])), (q_3, .inr (10, [.int 0, .ref z.1, .int 0])), (q_4, .inl (e_5, 256, .inr (.inr (.inr (.inr (va_up (fun _ => none) (0 : Int32).toNatClampNeg (some q_16))))))), (q_6, .inr (10, [.int 0, .ref z.1, .int 0])), (q_8, .inl (e_9, 1024, .inl (fun _ => 0))), (q_16, .inr (6, [.null, .int 0, .ref q_18, .int 0, .int 32768, .int 0, .ref q_19, .int 0, .null, .int 0, .int 0, .long 0, .int 1, .int 0, .int 1, .int 0, .ref q_20])), (q_18, .inl (e_21, 32, .inl (fun _ => 0)))]) [0, 1, 2, 3, 4, 5, 9, 10] rfl
  have hD9 := hD.sub (ws' := [(h0, .inr (5, [.ref h1, .ref h2, .ref q_1, .ref q_4, .int 1, .int 0, .ref q_6, .ref q_16, .ref q_8, .ref q_10, .int 0, .ref q_12, .int 0, .ref q_14, .int 0, .int 1, .null])), (q_1, .inr (8, [.ref q_3])), (q_3, .inr (10, [.int 0, .ref z.1, .int 0])), (q_4, .inl (e_5, 256, .inr (.inr (.inr (.inr (va_up (fun _ => none) (0 : Int32).toNatClampNeg (some q_16))))))), (q_6, .inr (10, [.int 0, .ref z.1, .int 0])), (q_8, .inl (e_9, 1024, .inl (fun _ => 0))), (q_16, .inr (6, [.null, .int 0, .ref q_18, .int 0, .int 32768, .int 0, .ref q_19, .int 0, .null, .int 0, .int 0, .long 0, .int 1, .int 0, .int 1, .int 0, .ref q_20])), (q_18, .inl (e_21, 32, .inl (fun _ => 0)))]) [0, 1, 2, 3, 4, 5, 9, 10] (by decide) rfl
  have hK9 := hK.sub (tys' := [(e_5, .object "ChainLedger$Block"), (e_9, .byte), (e_21, .byte)]) [0, 1, 5] rfl
  exact W.vret hx hb hr (fun t9 ht9 hW9 => ⟨⟨(), rfl, trivial, ⟨q_1, q_3, q_4, q_6, q_8, q_16, q_18, q_10, q_12, q_14, q_19, q_20, e_5, e_9, e_21, (va_up (fun _ => none) (0 : Int32).toNatClampNeg (some q_16)), (by first | rfl | simp [va_up, sb_cl0]), by rw [ht9]; exact hP9, va_K.moved hW9.alike hK9, hD9⟩⟩, hS.F ht9⟩) hS.2.2 d_Chain_init_129
