set_option maxHeartbeats 4000000 in
set_option maxRecDepth 100000 in
theorem c_CL_feed (l : Launch) (dC : Nat → ClassId) (dI : Nat → Nat → Nat) (z : zT) (sz : Nat) (h0 ht ho hs hj hc hw hy hq b1 : Nat) (e1 : ClassId) (x1 x2 x3 x4 x5 : Int32)  : Met l y_CL_feed w_CL_feed ({ frames := 2, cells := 0, slots := 0, locals := 43 }) (va_Pc [.ref h0, .int x1, .int x2, .int x3, .int x4, .int x5] (fun U => U.heap.size = sz ∧ va_P (dC, dI) cl_all [(h0, .inr (0, [.ref ht, .ref ho, .int 0, .int 0, .ref hs, .ref hj, .ref hc, .ref hw, .ref hy, .ref hq])), (ht, .inr (1, [.ref b1, .int 0])), (b1, .inl (e1, 4096, .inl (fun _ => 0)))] U.heap ∧ va_K (dC, dI) cl_all [(e1, .byte)] U ∧ va_D (fun _ => True) [(h0, .inr (0, [.ref ht, .ref ho, .int 0, .int 0, .ref hs, .ref hj, .ref hc, .ref hw, .ref hy, .ref hq])), (ht, .inr (1, [.ref b1, .int 0])), (b1, .inl (e1, 4096, .inl (fun _ => 0)))] ∧ zz z (va_A [(h0, .inr (0, [.ref ht, .ref ho, .int 0, .int 0, .ref hs, .ref hj, .ref hc, .ref hw, .ref hy, .ref hq])), (ht, .inr (1, [.ref b1, .int 0])), (b1, .inl (e1, 4096, .inl (fun _ => 0)))] sz) U U.heap)) (va_Qi (fun (r : Int32) (_ : Unit) => r = 20) (fun _ t => True) (va_A [(h0, .inr (0, [.ref ht, .ref ho, .int 0, .int 0, .ref hs, .ref hj, .ref hc, .ref hw, .ref hy, .ref hq])), (ht, .inr (1, [.ref b1, .int 0])), (b1, .inl (e1, 4096, .inl (fun _ => 0)))] sz)) 0 0 (va_A [(h0, .inr (0, [.ref ht, .ref ho, .int 0, .int 0, .ref hs, .ref hj, .ref hc, .ref hw, .ref hy, .ref hq])), (ht, .inr (1, [.ref b1, .int 0])), (b1, .inl (e1, 4096, .inl (fun _ => 0)))] sz) := by
  refine Met.ofW (cc := b_CL_feed) (maxL := 6) (ret := (some (.int))) (by decide) rfl ?_
  intro p e s m args below meth c s₁ B hml hv
  obtain ⟨rfl, hsz, hP, hK, hD0, hZ⟩ := hv
  have hx := B.exec
  have hb := B.bytes
  have hr := B.returns
  have hT : ∀ w ∈ lw_all, w.before _ s = true := fun w h => atoms_spec (ws := w_CL_feed) B.pre w (List.mem_cons_of_mem _ h)
  have hown : s.vm.findClass R_CL = some m.cls := findClass_of_methodNamed B.named
  have hlocks := B.notSynchronized
  subst hsz
  have hD := hD0.self (sz := s.heap.size)
  generalize hAe : va_A [(h0, .inr (0, [.ref ht, .ref ho, .int 0, .int 0, .ref hs, .ref hj, .ref hc, .ref hw, .ref hy, .ref hq])), (ht, .inr (1, [.ref b1, .int 0])), (b1, .inl (e1, 4096, .inl (fun _ => 0)))] s.heap.size = A at hD hZ ⊢
  have hA : ∀ q : Nat, s.heap.size ≤ q → A q := fun q h => by rw [← hAe]; exact Or.inr h
  have hS : va_S A s.heap s.heap [] := va_S.rf
  have hl := lv_entry ([.ref h0, .int x1, .int x2, .int x3, .int x4, .int x5]) (n := 6) (Nat.le_of_ble_eq_true rfl)
  rw [lg_entry_eq]
  generalize (lg_sl ([.ref h0, .int x1, .int x2, .int x3, .int x4, .int x5]) ++ List.replicate (6 - (lg_sl ([.ref h0, .int x1, .int x2, .int x3, .int x4, .int x5])).length) Slot.unset).toArray = ls at hl ⊢
  have hl : lv_has ls 6 [(0, .ref h0), (1, .int x1), (2, .int x2), (3, .int x3), (4, .int x4), (5, .int x5)] := hl
  refine lv_aload_n hx hb d_CL_feed_0 rfl (lv_at hl 0 rfl) ?_
  refine va_get (D := (dC, dI)) (ci := 0) (v := .ref ht) (C := R_CL) (T := F_CL) (N := 10) hx hb hT i_CL hown hK hP 0 rfl rfl 0 (by decide) (hT _ k_167) (fun _ h9 => h9) rfl d_CL_feed_1 ?_
  refine va_get (D := (dC, dI)) (ci := 1) (v := .int 0) (C := R_Row) (T := F_Row) (N := 2) hx hb hT i_Row hown hK hP 1 rfl rfl 1 (by decide) (hT _ k_195) (fun _ h9 => h9) rfl d_CL_feed_4 ?_
  refine lv_bipush (v := 20) hx hb d_CL_feed_7 (by decide) ?_
  refine lv_iadd hx hb d_CL_feed_9 ?_
  refine zz_i (v := 20) (by decide) ?_
  refine lv_sipush (v := 4096) hx hb d_CL_feed_10 (by decide) ?_
  refine lv_icmp_le (tgt := 19) hx hb d_CL_feed_13 (by decide) (fun _ => ?_) (fun h => absurd (by decide) h)
  refine lv_aload_n hx hb d_CL_feed_19 rfl (lv_at hl 0 rfl) ?_
  refine va_get (D := (dC, dI)) (ci := 0) (v := .ref ht) (C := R_CL) (T := F_CL) (N := 10) hx hb hT i_CL hown hK hP 0 rfl rfl 0 (by decide) (hT _ k_167) (fun _ h9 => h9) rfl d_CL_feed_20 ?_
  refine lv_iload_n hx hb d_CL_feed_23 rfl (lv_at hl 1 rfl) ?_
  have hPc := hP.sub (ws' := [(ht, .inr (1, [.ref b1, .int 0])), (b1, .inl (e1, 4096, .inl (fun _ => 0)))]) [1, 2] rfl
  have hDc := hD.sub (ws' := [(ht, .inr (1, [.ref b1, .int 0])), (b1, .inl (e1, 4096, .inl (fun _ => 0)))]) [1, 2] (by decide) rfl
  have hKc := hK.sub (tys' := [(e1, .byte)]) [0] rfl
  have hFc := va_free (wc := [(ht, .inr (1, [.ref b1, .int 0])), (b1, .inl (e1, 4096, .inl (fun _ => 0)))]) hD hS hA [1, 2] rfl
  refine va_callv (va_runV (C := R_Row) (As := [.int x1]) (rest := []) ⟨hx, hb, hml, hown, hT⟩ (c_Row_addNumber l dC dI z s.heap.size ht b1 e1 (fun _ => 0) 0 x1 sb_fit0 (by omega)) ⟨callB_of 1 hT g_Row_addNumber rfl rfl rfl (hT _ k_55) (hT _ k_196) (by decide +kernel) ⟨Nat.le_of_ble_eq_true rfl, Nat.le_of_ble_eq_true rfl⟩, (hT _ k_107), (hT _ k_108)⟩ (zz_preV hPc hKc hDc hZ hS hFc hK hP (ci := 1) (q0 := 1) (q := (R_Row, F_Row, 2)) rfl rfl) rfl rfl hl.1 rfl (lv_room (Nat.le_of_ble_eq_true rfl)) d_CL_feed_24 ⟨Nat.le_of_ble_eq_true rfl, Nat.le_of_ble_eq_true rfl⟩) hS (fun q _ h => hFc q h) hFc (fun u9 t9 H1 locs ht9 hvm9 hw9 hB9 hz19 hk19 hS => ?_)
  obtain ⟨f_2, hf_3, hP1, hK1, hD1⟩ := hB9
  rw [ht9] at hP1
  obtain ⟨hP, hD⟩ := va_join (wr := [(h0, .inr (0, [.ref ht, .ref ho, .int 0, .int 0, .ref hs, .ref hj, .ref hc, .ref hw, .ref hy, .ref hq]))]) (w1 := [(ht, .inr (1, [.ref b1, .int 4])), (b1, .inl (e1, 4096, .inl f_2))]) hP hD [1, 2] [0] rfl rfl (by decide) (by decide) hk19 hFc hP1 hD1
  generalize H1 = H at hP hS ⊢
  have hP : va_P (dC, dI) cl_all [(h0, .inr (0, [.ref ht, .ref ho, .int 0, .int 0, .ref hs, .ref hj, .ref hc, .ref hw, .ref hy, .ref hq])), (ht, .inr (1, [.ref b1, .int 4])), (b1, .inl (e1, 4096, .inl f_2))] H := hP
  have hD : va_D A [(h0, .inr (0, [.ref ht, .ref ho, .int 0, .int 0, .ref hs, .ref hj, .ref hc, .ref hw, .ref hy, .ref hq])), (ht, .inr (1, [.ref b1, .int 4])), (b1, .inl (e1, 4096, .inl f_2))] := hD
  refine lv_aload_n hx hb d_CL_feed_27 rfl (lv_at hl 0 rfl) ?_
  refine va_get (D := (dC, dI)) (ci := 0) (v := .ref ht) (C := R_CL) (T := F_CL) (N := 10) hx hb hT i_CL hown hK hP 0 rfl rfl 0 (by decide) (hT _ k_167) (fun _ h9 => h9) rfl d_CL_feed_28 ?_
  refine lv_iload_n hx hb d_CL_feed_31 rfl (lv_at hl 2 rfl) ?_
  have hPc := hP.sub (ws' := [(ht, .inr (1, [.ref b1, .int 4])), (b1, .inl (e1, 4096, .inl f_2))]) [1, 2] rfl
  have hDc := hD.sub (ws' := [(ht, .inr (1, [.ref b1, .int 4])), (b1, .inl (e1, 4096, .inl f_2))]) [1, 2] (by decide) rfl
  have hKc := hK.sub (tys' := [(e1, .byte)]) [0] rfl
  have hFc := va_free (wc := [(ht, .inr (1, [.ref b1, .int 4])), (b1, .inl (e1, 4096, .inl f_2))]) hD hS hA [1, 2] rfl
  refine va_callv (va_runV (C := R_Row) (As := [.int x2]) (rest := []) ⟨hx, hb, hml, hown, hT⟩ (c_Row_addNumber l dC dI z H.size ht b1 e1 f_2 4 x2 hf_3 (by omega)) ⟨callB_of 1 hT g_Row_addNumber rfl rfl rfl (hT _ k_55) (hT _ k_196) (by decide +kernel) ⟨Nat.le_of_ble_eq_true rfl, Nat.le_of_ble_eq_true rfl⟩, (hT _ k_107), (hT _ k_108)⟩ (zz_preV hPc hKc hDc hZ hS hFc hK hP (ci := 1) (q0 := 1) (q := (R_Row, F_Row, 2)) rfl rfl) rfl rfl hl.1 rfl (lv_room (Nat.le_of_ble_eq_true rfl)) d_CL_feed_32 ⟨Nat.le_of_ble_eq_true rfl, Nat.le_of_ble_eq_true rfl⟩) hS (fun q _ h => hFc q h) hFc (fun u9 t9 H1 locs ht9 hvm9 hw9 hB9 hz19 hk19 hS => ?_)
  obtain ⟨f_5, hf_6, hP1, hK1, hD1⟩ := hB9
  rw [ht9] at hP1
  obtain ⟨hP, hD⟩ := va_join (wr := [(h0, .inr (0, [.ref ht, .ref ho, .int 0, .int 0, .ref hs, .ref hj, .ref hc, .ref hw, .ref hy, .ref hq]))]) (w1 := [(ht, .inr (1, [.ref b1, .int 8])), (b1, .inl (e1, 4096, .inl f_5))]) hP hD [1, 2] [0] rfl rfl (by decide) (by decide) hk19 hFc hP1 hD1
  generalize H1 = H at hP hS ⊢
  have hP : va_P (dC, dI) cl_all [(h0, .inr (0, [.ref ht, .ref ho, .int 0, .int 0, .ref hs, .ref hj, .ref hc, .ref hw, .ref hy, .ref hq])), (ht, .inr (1, [.ref b1, .int 8])), (b1, .inl (e1, 4096, .inl f_5))] H := hP
  have hD : va_D A [(h0, .inr (0, [.ref ht, .ref ho, .int 0, .int 0, .ref hs, .ref hj, .ref hc, .ref hw, .ref hy, .ref hq])), (ht, .inr (1, [.ref b1, .int 8])), (b1, .inl (e1, 4096, .inl f_5))] := hD
  refine lv_aload_n hx hb d_CL_feed_35 rfl (lv_at hl 0 rfl) ?_
  refine va_get (D := (dC, dI)) (ci := 0) (v := .ref ht) (C := R_CL) (T := F_CL) (N := 10) hx hb hT i_CL hown hK hP 0 rfl rfl 0 (by decide) (hT _ k_167) (fun _ h9 => h9) rfl d_CL_feed_36 ?_
  refine lv_iload_n hx hb d_CL_feed_39 rfl (lv_at hl 3 rfl) ?_
  have hPc := hP.sub (ws' := [(ht, .inr (1, [.ref b1, .int 8])), (b1, .inl (e1, 4096, .inl f_5))]) [1, 2] rfl
  have hDc := hD.sub (ws' := [(ht, .inr (1, [.ref b1, .int 8])), (b1, .inl (e1, 4096, .inl f_5))]) [1, 2] (by decide) rfl
  have hKc := hK.sub (tys' := [(e1, .byte)]) [0] rfl
  have hFc := va_free (wc := [(ht, .inr (1, [.ref b1, .int 8])), (b1, .inl (e1, 4096, .inl f_5))]) hD hS hA [1, 2] rfl
  refine va_callv (va_runV (C := R_Row) (As := [.int x3]) (rest := []) ⟨hx, hb, hml, hown, hT⟩ (c_Row_addNumber l dC dI z H.size ht b1 e1 f_5 8 x3 hf_6 (by omega)) ⟨callB_of 1 hT g_Row_addNumber rfl rfl rfl (hT _ k_55) (hT _ k_196) (by decide +kernel) ⟨Nat.le_of_ble_eq_true rfl, Nat.le_of_ble_eq_true rfl⟩, (hT _ k_107), (hT _ k_108)⟩ (zz_preV hPc hKc hDc hZ hS hFc hK hP (ci := 1) (q0 := 1) (q := (R_Row, F_Row, 2)) rfl rfl) rfl rfl hl.1 rfl (lv_room (Nat.le_of_ble_eq_true rfl)) d_CL_feed_40 ⟨Nat.le_of_ble_eq_true rfl, Nat.le_of_ble_eq_true rfl⟩) hS (fun q _ h => hFc q h) hFc (fun u9 t9 H1 locs ht9 hvm9 hw9 hB9 hz19 hk19 hS => ?_)
  obtain ⟨f_8, hf_9, hP1, hK1, hD1⟩ := hB9
  rw [ht9] at hP1
  obtain ⟨hP, hD⟩ := va_join (wr := [(h0, .inr (0, [.ref ht, .ref ho, .int 0, .int 0, .ref hs, .ref hj, .ref hc, .ref hw, .ref hy, .ref hq]))]) (w1 := [(ht, .inr (1, [.ref b1, .int 12])), (b1, .inl (e1, 4096, .inl f_8))]) hP hD [1, 2] [0] rfl rfl (by decide) (by decide) hk19 hFc hP1 hD1
  generalize H1 = H at hP hS ⊢
  have hP : va_P (dC, dI) cl_all [(h0, .inr (0, [.ref ht, .ref ho, .int 0, .int 0, .ref hs, .ref hj, .ref hc, .ref hw, .ref hy, .ref hq])), (ht, .inr (1, [.ref b1, .int 12])), (b1, .inl (e1, 4096, .inl f_8))] H := hP
  have hD : va_D A [(h0, .inr (0, [.ref ht, .ref ho, .int 0, .int 0, .ref hs, .ref hj, .ref hc, .ref hw, .ref hy, .ref hq])), (ht, .inr (1, [.ref b1, .int 12])), (b1, .inl (e1, 4096, .inl f_8))] := hD
  refine lv_aload_n hx hb d_CL_feed_43 rfl (lv_at hl 0 rfl) ?_
  refine va_get (D := (dC, dI)) (ci := 0) (v := .ref ht) (C := R_CL) (T := F_CL) (N := 10) hx hb hT i_CL hown hK hP 0 rfl rfl 0 (by decide) (hT _ k_167) (fun _ h9 => h9) rfl d_CL_feed_44 ?_
  refine lv_iload hx hb d_CL_feed_47 (lv_at hl 4 rfl) ?_
  have hPc := hP.sub (ws' := [(ht, .inr (1, [.ref b1, .int 12])), (b1, .inl (e1, 4096, .inl f_8))]) [1, 2] rfl
  have hDc := hD.sub (ws' := [(ht, .inr (1, [.ref b1, .int 12])), (b1, .inl (e1, 4096, .inl f_8))]) [1, 2] (by decide) rfl
  have hKc := hK.sub (tys' := [(e1, .byte)]) [0] rfl
  have hFc := va_free (wc := [(ht, .inr (1, [.ref b1, .int 12])), (b1, .inl (e1, 4096, .inl f_8))]) hD hS hA [1, 2] rfl
  refine va_callv (va_runV (C := R_Row) (As := [.int x4]) (rest := []) ⟨hx, hb, hml, hown, hT⟩ (c_Row_addNumber l dC dI z H.size ht b1 e1 f_8 12 x4 hf_9 (by omega)) ⟨callB_of 1 hT g_Row_addNumber rfl rfl rfl (hT _ k_55) (hT _ k_196) (by decide +kernel) ⟨Nat.le_of_ble_eq_true rfl, Nat.le_of_ble_eq_true rfl⟩, (hT _ k_107), (hT _ k_108)⟩ (zz_preV hPc hKc hDc hZ hS hFc hK hP (ci := 1) (q0 := 1) (q := (R_Row, F_Row, 2)) rfl rfl) rfl rfl hl.1 rfl (lv_room (Nat.le_of_ble_eq_true rfl)) d_CL_feed_49 ⟨Nat.le_of_ble_eq_true rfl, Nat.le_of_ble_eq_true rfl⟩) hS (fun q _ h => hFc q h) hFc (fun u9 t9 H1 locs ht9 hvm9 hw9 hB9 hz19 hk19 hS => ?_)
  obtain ⟨f_11, hf_12, hP1, hK1, hD1⟩ := hB9
  rw [ht9] at hP1
  obtain ⟨hP, hD⟩ := va_join (wr := [(h0, .inr (0, [.ref ht, .ref ho, .int 0, .int 0, .ref hs, .ref hj, .ref hc, .ref hw, .ref hy, .ref hq]))]) (w1 := [(ht, .inr (1, [.ref b1, .int 16])), (b1, .inl (e1, 4096, .inl f_11))]) hP hD [1, 2] [0] rfl rfl (by decide) (by decide) hk19 hFc hP1 hD1
  generalize H1 = H at hP hS ⊢
  have hP : va_P (dC, dI) cl_all [(h0, .inr (0, [.ref ht, .ref ho, .int 0, .int 0, .ref hs, .ref hj, .ref hc, .ref hw, .ref hy, .ref hq])), (ht, .inr (1, [.ref b1, .int 16])), (b1, .inl (e1, 4096, .inl f_11))] H := hP
  have hD : va_D A [(h0, .inr (0, [.ref ht, .ref ho, .int 0, .int 0, .ref hs, .ref hj, .ref hc, .ref hw, .ref hy, .ref hq])), (ht, .inr (1, [.ref b1, .int 16])), (b1, .inl (e1, 4096, .inl f_11))] := hD
  refine lv_aload_n hx hb d_CL_feed_52 rfl (lv_at hl 0 rfl) ?_
  refine va_get (D := (dC, dI)) (ci := 0) (v := .ref ht) (C := R_CL) (T := F_CL) (N := 10) hx hb hT i_CL hown hK hP 0 rfl rfl 0 (by decide) (hT _ k_167) (fun _ h9 => h9) rfl d_CL_feed_53 ?_
  refine lv_iload hx hb d_CL_feed_56 (lv_at hl 5 rfl) ?_
  have hPc := hP.sub (ws' := [(ht, .inr (1, [.ref b1, .int 16])), (b1, .inl (e1, 4096, .inl f_11))]) [1, 2] rfl
  have hDc := hD.sub (ws' := [(ht, .inr (1, [.ref b1, .int 16])), (b1, .inl (e1, 4096, .inl f_11))]) [1, 2] (by decide) rfl
  have hKc := hK.sub (tys' := [(e1, .byte)]) [0] rfl
  have hFc := va_free (wc := [(ht, .inr (1, [.ref b1, .int 16])), (b1, .inl (e1, 4096, .inl f_11))]) hD hS hA [1, 2] rfl
  refine va_callv (va_runV (C := R_Row) (As := [.int x5]) (rest := []) ⟨hx, hb, hml, hown, hT⟩ (c_Row_addNumber l dC dI z H.size ht b1 e1 f_11 16 x5 hf_12 (by omega)) ⟨callB_of 1 hT g_Row_addNumber rfl rfl rfl (hT _ k_55) (hT _ k_196) (by decide +kernel) ⟨Nat.le_of_ble_eq_true rfl, Nat.le_of_ble_eq_true rfl⟩, (hT _ k_107), (hT _ k_108)⟩ (zz_preV hPc hKc hDc hZ hS hFc hK hP (ci := 1) (q0 := 1) (q := (R_Row, F_Row, 2)) rfl rfl) rfl rfl hl.1 rfl (lv_room (Nat.le_of_ble_eq_true rfl)) d_CL_feed_58 ⟨Nat.le_of_ble_eq_true rfl, Nat.le_of_ble_eq_true rfl⟩) hS (fun q _ h => hFc q h) hFc (fun u9 t9 H1 locs ht9 hvm9 hw9 hB9 hz19 hk19 hS => ?_)
  obtain ⟨f_14, hf_15, hP1, hK1, hD1⟩ := hB9
  rw [ht9] at hP1
  obtain ⟨hP, hD⟩ := va_join (wr := [(h0, .inr (0, [.ref ht, .ref ho, .int 0, .int 0, .ref hs, .ref hj, .ref hc, .ref hw, .ref hy, .ref hq]))]) (w1 := [(ht, .inr (1, [.ref b1, .int 20])), (b1, .inl (e1, 4096, .inl f_14))]) hP hD [1, 2] [0] rfl rfl (by decide) (by decide) hk19 hFc hP1 hD1
  generalize H1 = H at hP hS ⊢
  have hP : va_P (dC, dI) cl_all [(h0, .inr (0, [.ref ht, .ref ho, .int 0, .int 0, .ref hs, .ref hj, .ref hc, .ref hw, .ref hy, .ref hq])), (ht, .inr (1, [.ref b1, .int 20])), (b1, .inl (e1, 4096, .inl f_14))] H := hP
  have hD : va_D A [(h0, .inr (0, [.ref ht, .ref ho, .int 0, .int 0, .ref hs, .ref hj, .ref hc, .ref hw, .ref hy, .ref hq])), (ht, .inr (1, [.ref b1, .int 20])), (b1, .inl (e1, 4096, .inl f_14))] := hD
  refine lv_aload_n hx hb d_CL_feed_61 rfl (lv_at hl 0 rfl) ?_
  refine va_get (D := (dC, dI)) (ci := 0) (v := .ref ht) (C := R_CL) (T := F_CL) (N := 10) hx hb hT i_CL hown hK hP 0 rfl rfl 0 (by decide) (hT _ k_167) (fun _ h9 => h9) rfl d_CL_feed_62 ?_
  refine va_get (D := (dC, dI)) (ci := 1) (v := .int 20) (C := R_Row) (T := F_Row) (N := 2) hx hb hT i_Row hown hK hP 1 rfl rfl 1 (by decide) (hT _ k_195) (fun _ h9 => h9) rfl d_CL_feed_65 ?_
  exact W.iret (v := 20) hx hb hr (fun t9 ht9 hW9 => ⟨⟨20, (), rfl, rfl, trivial⟩, hS.F ht9⟩) hS.2.2 d_CL_feed_68
set_option maxHeartbeats 4000000 in
set_option maxRecDepth 100000 in
theorem c_CL_end (l : Launch) (dC : Nat → ClassId) (dI : Nat → Nat → Nat) (z : zT) (sz : Nat) (h0 ht ho hs hj hc hw hy hq b1 : Nat) (x1 : Int32)  : Met l y_CL_end w_CL_end ({ frames := 0, cells := 0, slots := 0, locals := 0 }) (va_Pc [.ref h0, .int x1] (fun U => U.heap.size = sz ∧ va_P (dC, dI) cl_all [(h0, .inr (0, [.ref ht, .ref ho, .int 0, .int 0, .ref hs, .ref hj, .ref hc, .ref hw, .ref hy, .ref hq])), (ht, .inr (1, [.ref b1, .int 0]))] U.heap ∧ va_K (dC, dI) cl_all [] U ∧ va_D (fun _ => True) [(h0, .inr (0, [.ref ht, .ref ho, .int 0, .int 0, .ref hs, .ref hj, .ref hc, .ref hw, .ref hy, .ref hq])), (ht, .inr (1, [.ref b1, .int 0]))] ∧ zz z (va_A [(h0, .inr (0, [.ref ht, .ref ho, .int 0, .int 0, .ref hs, .ref hj, .ref hc, .ref hw, .ref hy, .ref hq])), (ht, .inr (1, [.ref b1, .int 0]))] sz) U U.heap)) (va_Qi (fun (r : Int32) (_ : Unit) => r = an_end x1) (fun _ t => True) (va_A [(h0, .inr (0, [.ref ht, .ref ho, .int 0, .int 0, .ref hs, .ref hj, .ref hc, .ref hw, .ref hy, .ref hq])), (ht, .inr (1, [.ref b1, .int 0]))] sz)) 0 0 (va_A [(h0, .inr (0, [.ref ht, .ref ho, .int 0, .int 0, .ref hs, .ref hj, .ref hc, .ref hw, .ref hy, .ref hq])), (ht, .inr (1, [.ref b1, .int 0]))] sz) := by
  refine Met.ofW (cc := b_CL_end) (maxL := 2) (ret := (some (.int))) (by decide) rfl ?_
  intro p e s m args below meth c s₁ B hml hv
  obtain ⟨rfl, hsz, hP, hK, hD0, hZ⟩ := hv
  have hx := B.exec
  have hb := B.bytes
  have hr := B.returns
  have hT : ∀ w ∈ lw_all, w.before _ s = true := fun w h => atoms_spec (ws := w_CL_end) B.pre w (List.mem_cons_of_mem _ h)
  have hown : s.vm.findClass R_CL = some m.cls := findClass_of_methodNamed B.named
  have hlocks := B.notSynchronized
  subst hsz
  have hD := hD0.self (sz := s.heap.size)
  generalize hAe : va_A [(h0, .inr (0, [.ref ht, .ref ho, .int 0, .int 0, .ref hs, .ref hj, .ref hc, .ref hw, .ref hy, .ref hq])), (ht, .inr (1, [.ref b1, .int 0]))] s.heap.size = A at hD hZ ⊢
  have hA : ∀ q : Nat, s.heap.size ≤ q → A q := fun q h => by rw [← hAe]; exact Or.inr h
  have hS : va_S A s.heap s.heap [] := va_S.rf
  have hl := lv_entry ([.ref h0, .int x1]) (n := 2) (Nat.le_of_ble_eq_true rfl)
  rw [lg_entry_eq]
  generalize (lg_sl ([.ref h0, .int x1]) ++ List.replicate (2 - (lg_sl ([.ref h0, .int x1])).length) Slot.unset).toArray = ls at hl ⊢
  have hl : lv_has ls 2 [(0, .ref h0), (1, .int x1)] := hl
  refine lv_iload_n hx hb d_CL_end_0 rfl (lv_at hl 1 rfl) ?_
  refine lv_if_lt (tgt := 15) hx hb d_CL_end_1 (by decide) (fun c_1 => ?_) (fun c_1 => ?_)
  · refine lv_iconst (v := -1) hx hb d_CL_end_15 (by decide) ?_
    exact W.iret (v := (-1)) hx hb hr (fun t9 ht9 hW9 => ⟨⟨(-1), (), rfl, (ae_3 c_1), trivial⟩, hS.F ht9⟩) hS.2.2 d_CL_end_16
  · refine lv_iload_n hx hb d_CL_end_4 rfl (lv_at hl 1 rfl) ?_
    refine lv_aload_n hx hb d_CL_end_5 rfl (lv_at hl 0 rfl) ?_
    refine va_get (D := (dC, dI)) (ci := 0) (v := .ref ht) (C := R_CL) (T := F_CL) (N := 10) hx hb hT i_CL hown hK hP 0 rfl rfl 0 (by decide) (hT _ k_167) (fun _ h9 => h9) rfl d_CL_end_6 ?_
    refine va_get (D := (dC, dI)) (ci := 1) (v := .int 0) (C := R_Row) (T := F_Row) (N := 2) hx hb hT i_Row hown hK hP 1 rfl rfl 1 (by decide) (hT _ k_195) (fun _ h9 => h9) rfl d_CL_end_9 ?_
    refine lv_icmp_le (tgt := 17) hx hb d_CL_end_12 (by decide) (fun c_2 => ?_) (fun c_2 => ?_)
    · refine lv_aload_n hx hb d_CL_end_17 rfl (lv_at hl 0 rfl) ?_
      refine va_get (D := (dC, dI)) (ci := 0) (v := .ref ht) (C := R_CL) (T := F_CL) (N := 10) hx hb hT i_CL hown hK hP 0 rfl rfl 0 (by decide) (hT _ k_167) (fun _ h9 => h9) rfl d_CL_end_18 ?_
      refine lv_iload_n hx hb d_CL_end_21 rfl (lv_at hl 1 rfl) ?_
      refine va_put (D := (dC, dI)) (ci := 1) (v := .int x1) (ty := .int) (C := R_Row) (T := F_Row) (N := 2) hx hb hT i_Row t_Row t_Row_ok n_Row hown hK hP hD hS 1 rfl rfl 1 (by decide) (hT _ k_195) (fun _ h9 => h9) rfl (by decide +kernel) rfl rfl (Nat.le_of_ble_eq_true rfl) d_CL_end_22 (fun H locs hP hD hS => ?_)
      have hP : va_P (dC, dI) cl_all [(h0, .inr (0, [.ref ht, .ref ho, .int 0, .int 0, .ref hs, .ref hj, .ref hc, .ref hw, .ref hy, .ref hq])), (ht, .inr (1, [.ref b1, .int x1]))] H := hP
      have hD : va_D A [(h0, .inr (0, [.ref ht, .ref ho, .int 0, .int 0, .ref hs, .ref hj, .ref hc, .ref hw, .ref hy, .ref hq])), (ht, .inr (1, [.ref b1, .int x1]))] := hD
      refine lv_iload_n hx hb d_CL_end_25 rfl (lv_at hl 1 rfl) ?_
      exact W.iret (v := x1) hx hb hr (fun t9 ht9 hW9 => ⟨⟨x1, (), rfl, (ae_5 c_1 c_2), trivial⟩, hS.F ht9⟩) hS.2.2 d_CL_end_26
    · refine lv_iconst (v := -1) hx hb d_CL_end_15 (by decide) ?_
      exact W.iret (v := (-1)) hx hb hr (fun t9 ht9 hW9 => ⟨⟨(-1), (), rfl, (ae_4 c_1 c_2), trivial⟩, hS.F ht9⟩) hS.2.2 d_CL_end_16
set_option maxHeartbeats 4000000 in
set_option maxRecDepth 100000 in
theorem c_CL_alter (l : Launch) (dC : Nat → ClassId) (dI : Nat → Nat → Nat) (z : zT) (sz : Nat) (h0 ht ho hs hj hc hw hy hq b1 : Nat) (x1 x2 : Int32)  : Met l y_CL_alter w_CL_alter ({ frames := 0, cells := 0, slots := 0, locals := 0 }) (va_Pc [.ref h0, .int x1, .int x2] (fun U => U.heap.size = sz ∧ va_P (dC, dI) cl_all [(h0, .inr (0, [.ref ht, .ref ho, .int 0, .int 0, .ref hs, .ref hj, .ref hc, .ref hw, .ref hy, .ref hq])), (ht, .inr (1, [.ref b1, .int 0]))] U.heap ∧ va_K (dC, dI) cl_all [] U ∧ va_D (fun _ => True) [(h0, .inr (0, [.ref ht, .ref ho, .int 0, .int 0, .ref hs, .ref hj, .ref hc, .ref hw, .ref hy, .ref hq])), (ht, .inr (1, [.ref b1, .int 0]))] ∧ zz z (va_A [(h0, .inr (0, [.ref ht, .ref ho, .int 0, .int 0, .ref hs, .ref hj, .ref hc, .ref hw, .ref hy, .ref hq])), (ht, .inr (1, [.ref b1, .int 0]))] sz) U U.heap)) (va_Qi (fun (r : Int32) (_ : Unit) => r = (-1)) (fun _ t => True) (va_A [(h0, .inr (0, [.ref ht, .ref ho, .int 0, .int 0, .ref hs, .ref hj, .ref hc, .ref hw, .ref hy, .ref hq])), (ht, .inr (1, [.ref b1, .int 0]))] sz)) 0 0 (va_A [(h0, .inr (0, [.ref ht, .ref ho, .int 0, .int 0, .ref hs, .ref hj, .ref hc, .ref hw, .ref hy, .ref hq])), (ht, .inr (1, [.ref b1, .int 0]))] sz) := by
  refine Met.ofW (cc := b_CL_alter) (maxL := 4) (ret := (some (.int))) (by decide) rfl ?_
  intro p e s m args below meth c s₁ B hml hv
  obtain ⟨rfl, hsz, hP, hK, hD0, hZ⟩ := hv
  have hx := B.exec
  have hb := B.bytes
  have hr := B.returns
  have hT : ∀ w ∈ lw_all, w.before _ s = true := fun w h => atoms_spec (ws := w_CL_alter) B.pre w (List.mem_cons_of_mem _ h)
  have hown : s.vm.findClass R_CL = some m.cls := findClass_of_methodNamed B.named
  have hlocks := B.notSynchronized
  subst hsz
  have hD := hD0.self (sz := s.heap.size)
  generalize hAe : va_A [(h0, .inr (0, [.ref ht, .ref ho, .int 0, .int 0, .ref hs, .ref hj, .ref hc, .ref hw, .ref hy, .ref hq])), (ht, .inr (1, [.ref b1, .int 0]))] s.heap.size = A at hD hZ ⊢
  have hA : ∀ q : Nat, s.heap.size ≤ q → A q := fun q h => by rw [← hAe]; exact Or.inr h
  have hS : va_S A s.heap s.heap [] := va_S.rf
  have hl := lv_entry ([.ref h0, .int x1, .int x2]) (n := 4) (Nat.le_of_ble_eq_true rfl)
  rw [lg_entry_eq]
  generalize (lg_sl ([.ref h0, .int x1, .int x2]) ++ List.replicate (4 - (lg_sl ([.ref h0, .int x1, .int x2])).length) Slot.unset).toArray = ls at hl ⊢
  have hl : lv_has ls 4 [(0, .ref h0), (1, .int x1), (2, .int x2)] := hl
  refine lv_iload_n hx hb d_CL_alter_0 rfl (lv_at hl 1 rfl) ?_
  refine lv_if_lt (tgt := 26) hx hb d_CL_alter_1 (by decide) (fun c_1 => ?_) (fun c_1 => ?_)
  · refine lv_iconst (v := -1) hx hb d_CL_alter_26 (by decide) ?_
    exact W.iret (v := (-1)) hx hb hr (fun t9 ht9 hW9 => ⟨⟨(-1), (), rfl, rfl, trivial⟩, hS.F ht9⟩) hS.2.2 d_CL_alter_27
  · refine lv_iload_n hx hb d_CL_alter_4 rfl (lv_at hl 1 rfl) ?_
    refine lv_aload_n hx hb d_CL_alter_5 rfl (lv_at hl 0 rfl) ?_
    refine va_get (D := (dC, dI)) (ci := 0) (v := .ref ht) (C := R_CL) (T := F_CL) (N := 10) hx hb hT i_CL hown hK hP 0 rfl rfl 0 (by decide) (hT _ k_167) (fun _ h9 => h9) rfl d_CL_alter_6 ?_
    refine va_get (D := (dC, dI)) (ci := 1) (v := .int 0) (C := R_Row) (T := F_Row) (N := 2) hx hb hT i_Row hown hK hP 1 rfl rfl 1 (by decide) (hT _ k_195) (fun _ h9 => h9) rfl d_CL_alter_9 ?_
    refine lv_icmp_ge (tgt := 26) hx hb d_CL_alter_12 (by decide) (fun _ => ?_) (fun h => absurd (zz_nlt c_1) h)
    refine lv_iconst (v := -1) hx hb d_CL_alter_26 (by decide) ?_
    exact W.iret (v := (-1)) hx hb hr (fun t9 ht9 hW9 => ⟨⟨(-1), (), rfl, rfl, trivial⟩, hS.F ht9⟩) hS.2.2 d_CL_alter_27
set_option maxHeartbeats 4000000 in
set_option maxRecDepth 100000 in
theorem c_CL_block (l : Launch) (dC : Nat → ClassId) (dI : Nat → Nat → Nat) (z : zT) (sz : Nat) (h0 ht ho hs hj hc hw hy hq b1 g1 g3 g4 g5 g6 g8 g9 g10 g7 g11 g12 g13 g14 : Nat)  : Met l y_CL_block w_CL_block ({ frames := 6, cells := 4, slots := 84, locals := 116 }) (va_Pc [.ref h0] (fun U => U.heap.size = sz ∧ va_P (dC, dI) cl_all [(h0, .inr (0, [.ref ht, .ref ho, .int 0, .int 0, .ref hs, .ref hj, .ref hc, .ref hw, .ref hy, .ref hq])), (ht, .inr (1, [.ref b1, .int 0])), (hc, .inr (5, [.ref hs, .ref hj, .ref g1, .ref g3, .int 1, .int 0, .ref g4, .ref g6, .ref g5, .ref g8, .int 0, .ref g9, .int 0, .ref g10, .int 0, .int 1, .null])), (g6, .inr (6, [.null, .int 0, .ref g7, .int 0, .int 32768, .int 0, .ref g11, .int 0, .null, .int 0, .int 0, .long 0, .int 1, .int 0, .int 1, .int 0, .ref g12])), (hw, .inr (9, [.ref hs, .ref hj, .ref hc, .ref g13, .ref g14, .ref g6, .null]))] U.heap ∧ va_K (dC, dI) cl_all [] U ∧ va_D (fun _ => True) [(h0, .inr (0, [.ref ht, .ref ho, .int 0, .int 0, .ref hs, .ref hj, .ref hc, .ref hw, .ref hy, .ref hq])), (ht, .inr (1, [.ref b1, .int 0])), (hc, .inr (5, [.ref hs, .ref hj, .ref g1, .ref g3, .int 1, .int 0, .ref g4, .ref g6, .ref g5, .ref g8, .int 0, .ref g9, .int 0, .ref g10, .int 0, .int 1, .null])), (g6, .inr (6, [.null, .int 0, .ref g7, .int 0, .int 32768, .int 0, .ref g11, .int 0, .null, .int 0, .int 0, .long 0, .int 1, .int 0, .int 1, .int 0, .ref g12])), (hw, .inr (9, [.ref hs, .ref hj, .ref hc, .ref g13, .ref g14, .ref g6, .null]))] ∧ zz z (va_A [(h0, .inr (0, [.ref ht, .ref ho, .int 0, .int 0, .ref hs, .ref hj, .ref hc, .ref hw, .ref hy, .ref hq])), (ht, .inr (1, [.ref b1, .int 0])), (hc, .inr (5, [.ref hs, .ref hj, .ref g1, .ref g3, .int 1, .int 0, .ref g4, .ref g6, .ref g5, .ref g8, .int 0, .ref g9, .int 0, .ref g10, .int 0, .int 1, .null])), (g6, .inr (6, [.null, .int 0, .ref g7, .int 0, .int 32768, .int 0, .ref g11, .int 0, .null, .int 0, .int 0, .long 0, .int 1, .int 0, .int 1, .int 0, .ref g12])), (hw, .inr (9, [.ref hs, .ref hj, .ref hc, .ref g13, .ref g14, .ref g6, .null]))] sz) U U.heap)) (va_Qi (fun (r : Int32) (_ : Unit) => r = (-3)) (fun _ t => True) (va_A [(h0, .inr (0, [.ref ht, .ref ho, .int 0, .int 0, .ref hs, .ref hj, .ref hc, .ref hw, .ref hy, .ref hq])), (ht, .inr (1, [.ref b1, .int 0])), (hc, .inr (5, [.ref hs, .ref hj, .ref g1, .ref g3, .int 1, .int 0, .ref g4, .ref g6, .ref g5, .ref g8, .int 0, .ref g9, .int 0, .ref g10, .int 0, .int 1, .null])), (g6, .inr (6, [.null, .int 0, .ref g7, .int 0, .int 32768, .int 0, .ref g11, .int 0, .null, .int 0, .int 0, .long 0, .int 1, .int 0, .int 1, .int 0, .ref g12])), (hw, .inr (9, [.ref hs, .ref hj, .ref hc, .ref g13, .ref g14, .ref g6, .null]))] sz)) 4 84 (va_A [(h0, .inr (0, [.ref ht, .ref ho, .int 0, .int 0, .ref hs, .ref hj, .ref hc, .ref hw, .ref hy, .ref hq])), (ht, .inr (1, [.ref b1, .int 0])), (hc, .inr (5, [.ref hs, .ref hj, .ref g1, .ref g3, .int 1, .int 0, .ref g4, .ref g6, .ref g5, .ref g8, .int 0, .ref g9, .int 0, .ref g10, .int 0, .int 1, .null])), (g6, .inr (6, [.null, .int 0, .ref g7, .int 0, .int 32768, .int 0, .ref g11, .int 0, .null, .int 0, .int 0, .long 0, .int 1, .int 0, .int 1, .int 0, .ref g12])), (hw, .inr (9, [.ref hs, .ref hj, .ref hc, .ref g13, .ref g14, .ref g6, .null]))] sz) := by
  refine Met.ofW (cc := b_CL_block) (maxL := 2) (ret := (some (.int))) (by decide) rfl ?_
  intro p e s m args below meth c s₁ B hml hv
  obtain ⟨rfl, hsz, hP, hK, hD0, hZ⟩ := hv
  have hx := B.exec
  have hb := B.bytes
  have hr := B.returns
  have hT : ∀ w ∈ lw_all, w.before _ s = true := fun w h => atoms_spec (ws := w_CL_block) B.pre w (List.mem_cons_of_mem _ h)
  have hown : s.vm.findClass R_CL = some m.cls := findClass_of_methodNamed B.named
  have hlocks := B.notSynchronized
  subst hsz
  have hD := hD0.self (sz := s.heap.size)
  generalize hAe : va_A [(h0, .inr (0, [.ref ht, .ref ho, .int 0, .int 0, .ref hs, .ref hj, .ref hc, .ref hw, .ref hy, .ref hq])), (ht, .inr (1, [.ref b1, .int 0])), (hc, .inr (5, [.ref hs, .ref hj, .ref g1, .ref g3, .int 1, .int 0, .ref g4, .ref g6, .ref g5, .ref g8, .int 0, .ref g9, .int 0, .ref g10, .int 0, .int 1, .null])), (g6, .inr (6, [.null, .int 0, .ref g7, .int 0, .int 32768, .int 0, .ref g11, .int 0, .null, .int 0, .int 0, .long 0, .int 1, .int 0, .int 1, .int 0, .ref g12])), (hw, .inr (9, [.ref hs, .ref hj, .ref hc, .ref g13, .ref g14, .ref g6, .null]))] s.heap.size = A at hD hZ ⊢
  have hA : ∀ q : Nat, s.heap.size ≤ q → A q := fun q h => by rw [← hAe]; exact Or.inr h
  have hS : va_S A s.heap s.heap [] := va_S.rf
  have hl := lv_entry ([.ref h0]) (n := 2) (Nat.le_of_ble_eq_true rfl)
  rw [lg_entry_eq]
  generalize (lg_sl ([.ref h0]) ++ List.replicate (2 - (lg_sl ([.ref h0])).length) Slot.unset).toArray = ls at hl ⊢
  have hl : lv_has ls 2 [(0, .ref h0)] := hl
  refine lv_aload_n hx hb d_CL_block_0 rfl (lv_at hl 0 rfl) ?_
  refine va_get (D := (dC, dI)) (ci := 0) (v := .ref hc) (C := R_CL) (T := F_CL) (N := 10) hx hb hT i_CL hown hK hP 0 rfl rfl 6 (by decide) (hT _ k_184) (fun _ h9 => h9) rfl d_CL_block_1 ?_
  refine lv_aload_n hx hb d_CL_block_4 rfl (lv_at hl 0 rfl) ?_
  refine va_get (D := (dC, dI)) (ci := 0) (v := .ref ht) (C := R_CL) (T := F_CL) (N := 10) hx hb hT i_CL hown hK hP 0 rfl rfl 0 (by decide) (hT _ k_167) (fun _ h9 => h9) rfl d_CL_block_5 ?_
  refine va_get (D := (dC, dI)) (ci := 1) (v := .ref b1) (C := R_Row) (T := F_Row) (N := 2) hx hb hT i_Row hown hK hP 1 rfl rfl 0 (by decide) (hT _ k_197) (fun _ h9 => h9) rfl d_CL_block_8 ?_
  refine lv_aload_n hx hb d_CL_block_11 rfl (lv_at hl 0 rfl) ?_
  refine va_get (D := (dC, dI)) (ci := 0) (v := .ref ht) (C := R_CL) (T := F_CL) (N := 10) hx hb hT i_CL hown hK hP 0 rfl rfl 0 (by decide) (hT _ k_167) (fun _ h9 => h9) rfl d_CL_block_12 ?_
  refine va_get (D := (dC, dI)) (ci := 1) (v := .int 0) (C := R_Row) (T := F_Row) (N := 2) hx hb hT i_Row hown hK hP 1 rfl rfl 1 (by decide) (hT _ k_195) (fun _ h9 => h9) rfl d_CL_block_15 ?_
  have hPc := hP.sub (ws' := [(hc, .inr (5, [.ref hs, .ref hj, .ref g1, .ref g3, .int 1, .int 0, .ref g4, .ref g6, .ref g5, .ref g8, .int 0, .ref g9, .int 0, .ref g10, .int 0, .int 1, .null]))]) [2] rfl
  have hDc := hD.sub (ws' := [(hc, .inr (5, [.ref hs, .ref hj, .ref g1, .ref g3, .int 1, .int 0, .ref g4, .ref g6, .ref g5, .ref g8, .int 0, .ref g9, .int 0, .ref g10, .int 0, .int 1, .null]))]) [2] (by decide) rfl
  have hKc := hK.sub (tys' := []) [] rfl
  have hFc := va_free (wc := [(hc, .inr (5, [.ref hs, .ref hj, .ref g1, .ref g3, .int 1, .int 0, .ref g4, .ref g6, .ref g5, .ref g8, .int 0, .ref g9, .int 0, .ref g10, .int 0, .int 1, .null]))]) hD hS hA [2] rfl
  refine va_calli (va_runV (C := R_Chain) (As := [.ref b1, .int 0]) (rest := []) ⟨hx, hb, hml, hown, hT⟩ (c_Chain_receive l dC dI z s.heap.size g1 g3 g4 g5 g6 g8 g9 g10 hs hj hc b1) ⟨callB_of 2 hT g_Chain_receive rfl rfl rfl (hT _ k_132) (hT _ k_198) (by decide +kernel) ⟨Nat.le_of_ble_eq_true rfl, Nat.le_of_ble_eq_true rfl⟩, (hT _ k_199), (hT _ k_200)⟩ (zz_preV hPc hKc hDc hZ hS hFc hK hP (ci := 5) (q0 := 2) (q := (R_Chain, F_Chain, 17)) rfl rfl) rfl rfl hl.1 rfl (lv_room (Nat.le_of_ble_eq_true rfl)) d_CL_block_18 ⟨Nat.le_of_ble_eq_true rfl, Nat.le_of_ble_eq_true rfl⟩) hS (fun q _ h => hFc q h) hFc (fun r_1 u9 t9 H1 locs ht9 hvm9 hw9 hB9 hz19 hk19 hS => ?_)
  obtain ⟨q_2, hP1, hK1, hD1⟩ := hB9
  rw [ht9] at hP1
  obtain ⟨hP, hD⟩ := va_join (wr := [(h0, .inr (0, [.ref ht, .ref ho, .int 0, .int 0, .ref hs, .ref hj, .ref hc, .ref hw, .ref hy, .ref hq])), (ht, .inr (1, [.ref b1, .int 0])), (g6, .inr (6, [.null, .int 0, .ref g7, .int 0, .int 32768, .int 0, .ref g11, .int 0, .null, .int 0, .int 0, .long 0, .int 1, .int 0, .int 1, .int 0, .ref g12])), (hw, .inr (9, [.ref hs, .ref hj, .ref hc, .ref g13, .ref g14, .ref g6, .null]))]) (w1 := [(hc, .inr (5, [.ref hs, .ref hj, .ref g1, .ref g3, .int 1, .int 0, .ref g4, .ref g6, .ref g5, .ref g8, .int 0, .ref g9, .int 0, .ref g10, .int 0, .int 1, .ref q_2]))]) hP hD [2] [0, 1, 3, 4] rfl rfl (by decide) (by decide) hk19 hFc hP1 hD1
  generalize H1 = H at hP hS ⊢
  have hP : va_P (dC, dI) cl_all [(h0, .inr (0, [.ref ht, .ref ho, .int 0, .int 0, .ref hs, .ref hj, .ref hc, .ref hw, .ref hy, .ref hq])), (ht, .inr (1, [.ref b1, .int 0])), (g6, .inr (6, [.null, .int 0, .ref g7, .int 0, .int 32768, .int 0, .ref g11, .int 0, .null, .int 0, .int 0, .long 0, .int 1, .int 0, .int 1, .int 0, .ref g12])), (hw, .inr (9, [.ref hs, .ref hj, .ref hc, .ref g13, .ref g14, .ref g6, .null])), (hc, .inr (5, [.ref hs, .ref hj, .ref g1, .ref g3, .int 1, .int 0, .ref g4, .ref g6, .ref g5, .ref g8, .int 0, .ref g9, .int 0, .ref g10, .int 0, .int 1, .ref q_2]))] H := hP
  have hD : va_D A [(h0, .inr (0, [.ref ht, .ref ho, .int 0, .int 0, .ref hs, .ref hj, .ref hc, .ref hw, .ref hy, .ref hq])), (ht, .inr (1, [.ref b1, .int 0])), (g6, .inr (6, [.null, .int 0, .ref g7, .int 0, .int 32768, .int 0, .ref g11, .int 0, .null, .int 0, .int 0, .long 0, .int 1, .int 0, .int 1, .int 0, .ref g12])), (hw, .inr (9, [.ref hs, .ref hj, .ref hc, .ref g13, .ref g14, .ref g6, .null])), (hc, .inr (5, [.ref hs, .ref hj, .ref g1, .ref g3, .int 1, .int 0, .ref g4, .ref g6, .ref g5, .ref g8, .int 0, .ref g9, .int 0, .ref g10, .int 0, .int 1, .ref q_2]))] := hD
  refine W.widen (k := 4) (n := 84) (Nat.le_of_ble_eq_true rfl) (Nat.le_of_ble_eq_true rfl) ?_
  refine zz_i (v := (-3)) hw9 ?_
  refine lv_istore_n (lv' := [(1, .int (-3)), (0, .ref h0)]) hx hb d_CL_block_21 rfl hl (by decide) rfl (fun ls hl => ?_)
  refine lv_aload_n hx hb d_CL_block_22 rfl (lv_at hl 1 rfl) ?_
  refine va_get (D := (dC, dI)) (ci := 0) (v := .ref hc) (C := R_CL) (T := F_CL) (N := 10) hx hb hT i_CL hown hK hP 0 rfl rfl 6 (by decide) (hT _ k_184) (fun _ h9 => h9) rfl d_CL_block_23 ?_
  have hPc := hP.sub (ws' := [(hc, .inr (5, [.ref hs, .ref hj, .ref g1, .ref g3, .int 1, .int 0, .ref g4, .ref g6, .ref g5, .ref g8, .int 0, .ref g9, .int 0, .ref g10, .int 0, .int 1, .ref q_2])), (g6, .inr (6, [.null, .int 0, .ref g7, .int 0, .int 32768, .int 0, .ref g11, .int 0, .null, .int 0, .int 0, .long 0, .int 1, .int 0, .int 1, .int 0, .ref g12]))]) [4, 2] rfl
  have hDc := hD.sub (ws' := [(hc, .inr (5, [.ref hs, .ref hj, .ref g1, .ref g3, .int 1, .int 0, .ref g4, .ref g6, .ref g5, .ref g8, .int 0, .ref g9, .int 0, .ref g10, .int 0, .int 1, .ref q_2])), (g6, .inr (6, [.null, .int 0, .ref g7, .int 0, .int 32768, .int 0, .ref g11, .int 0, .null, .int 0, .int 0, .long 0, .int 1, .int 0, .int 1, .int 0, .ref g12]))]) [4, 2] (by decide) rfl
  have hKc := hK.sub (tys' := []) [] rfl
  have hFc := va_free (wc := [(hc, .inr (5, [.ref hs, .ref hj, .ref g1, .ref g3, .int 1, .int 0, .ref g4, .ref g6, .ref g5, .ref g8, .int 0, .ref g9, .int 0, .ref g10, .int 0, .int 1, .ref q_2])), (g6, .inr (6, [.null, .int 0, .ref g7, .int 0, .int 32768, .int 0, .ref g11, .int 0, .null, .int 0, .int 0, .long 0, .int 1, .int 0, .int 1, .int 0, .ref g12]))]) hD hS hA [4, 2] rfl
  refine va_callv (va_runV (C := R_Chain) (As := []) (rest := []) ⟨hx, hb, hml, hown, hT⟩ (c_Chain_settle l dC dI z H.size g1 g3 g4 g5 g6 g8 g9 g10 hs hj hc q_2 g7 g11 g12) ⟨callB_of 0 hT g_Chain_settle rfl rfl rfl (hT _ k_132) (hT _ k_201) (by decide +kernel) ⟨Nat.le_of_ble_eq_true rfl, Nat.le_of_ble_eq_true rfl⟩, (hT _ k_202), (hT _ k_203)⟩ (zz_preV hPc hKc hDc hZ hS hFc hK hP (ci := 5) (q0 := 4) (q := (R_Chain, F_Chain, 17)) rfl rfl) rfl rfl hl.1 rfl (lv_room (Nat.le_of_ble_eq_true rfl)) d_CL_block_26 ⟨Nat.le_of_ble_eq_true rfl, Nat.le_of_ble_eq_true rfl⟩) hS (fun q _ h => hFc q h) hFc (fun u9 t9 H1 locs ht9 hvm9 hw9 hB9 hz19 hk19 hS => ?_)
  obtain ⟨hP1, hK1, hD1⟩ := hB9
  rw [ht9] at hP1
  obtain ⟨hP, hD⟩ := va_join (wr := [(h0, .inr (0, [.ref ht, .ref ho, .int 0, .int 0, .ref hs, .ref hj, .ref hc, .ref hw, .ref hy, .ref hq])), (ht, .inr (1, [.ref b1, .int 0])), (hw, .inr (9, [.ref hs, .ref hj, .ref hc, .ref g13, .ref g14, .ref g6, .null]))]) (w1 := [(hc, .inr (5, [.ref hs, .ref hj, .ref g1, .ref g3, .int 1, .int 0, .ref g4, .ref g6, .ref g5, .ref g8, .int 0, .ref g9, .int 0, .ref g10, .int 0, .int 1, .ref q_2])), (g6, .inr (6, [.null, .int 0, .ref g7, .int 0, .int 32768, .int 0, .ref g11, .int 0, .null, .int 0, .int 0, .long 0, .int 1, .int 0, .int 1, .int 0, .ref g12]))]) hP hD [4, 2] [0, 1, 3] rfl rfl (by decide) (by decide) hk19 hFc hP1 hD1
  generalize H1 = H at hP hS ⊢
  have hP : va_P (dC, dI) cl_all [(h0, .inr (0, [.ref ht, .ref ho, .int 0, .int 0, .ref hs, .ref hj, .ref hc, .ref hw, .ref hy, .ref hq])), (ht, .inr (1, [.ref b1, .int 0])), (hw, .inr (9, [.ref hs, .ref hj, .ref hc, .ref g13, .ref g14, .ref g6, .null])), (hc, .inr (5, [.ref hs, .ref hj, .ref g1, .ref g3, .int 1, .int 0, .ref g4, .ref g6, .ref g5, .ref g8, .int 0, .ref g9, .int 0, .ref g10, .int 0, .int 1, .ref q_2])), (g6, .inr (6, [.null, .int 0, .ref g7, .int 0, .int 32768, .int 0, .ref g11, .int 0, .null, .int 0, .int 0, .long 0, .int 1, .int 0, .int 1, .int 0, .ref g12]))] H := hP
  have hD : va_D A [(h0, .inr (0, [.ref ht, .ref ho, .int 0, .int 0, .ref hs, .ref hj, .ref hc, .ref hw, .ref hy, .ref hq])), (ht, .inr (1, [.ref b1, .int 0])), (hw, .inr (9, [.ref hs, .ref hj, .ref hc, .ref g13, .ref g14, .ref g6, .null])), (hc, .inr (5, [.ref hs, .ref hj, .ref g1, .ref g3, .int 1, .int 0, .ref g4, .ref g6, .ref g5, .ref g8, .int 0, .ref g9, .int 0, .ref g10, .int 0, .int 1, .ref q_2])), (g6, .inr (6, [.null, .int 0, .ref g7, .int 0, .int 32768, .int 0, .ref g11, .int 0, .null, .int 0, .int 0, .long 0, .int 1, .int 0, .int 1, .int 0, .ref g12]))] := hD
  refine lv_aload_n hx hb d_CL_block_29 rfl (lv_at hl 1 rfl) ?_
  refine va_get (D := (dC, dI)) (ci := 0) (v := .ref hw) (C := R_CL) (T := F_CL) (N := 10) hx hb hT i_CL hown hK hP 0 rfl rfl 7 (by decide) (hT _ k_190) (fun _ h9 => h9) rfl d_CL_block_30 ?_
  have hPc := hP.sub (ws' := [(hw, .inr (9, [.ref hs, .ref hj, .ref hc, .ref g13, .ref g14, .ref g6, .null])), (hc, .inr (5, [.ref hs, .ref hj, .ref g1, .ref g3, .int 1, .int 0, .ref g4, .ref g6, .ref g5, .ref g8, .int 0, .ref g9, .int 0, .ref g10, .int 0, .int 1, .ref q_2]))]) [2, 3] rfl
  have hDc := hD.sub (ws' := [(hw, .inr (9, [.ref hs, .ref hj, .ref hc, .ref g13, .ref g14, .ref g6, .null])), (hc, .inr (5, [.ref hs, .ref hj, .ref g1, .ref g3, .int 1, .int 0, .ref g4, .ref g6, .ref g5, .ref g8, .int 0, .ref g9, .int 0, .ref g10, .int 0, .int 1, .ref q_2]))]) [2, 3] (by decide) rfl
  have hKc := hK.sub (tys' := []) [] rfl
  have hFc := va_free (wc := [(hw, .inr (9, [.ref hs, .ref hj, .ref hc, .ref g13, .ref g14, .ref g6, .null])), (hc, .inr (5, [.ref hs, .ref hj, .ref g1, .ref g3, .int 1, .int 0, .ref g4, .ref g6, .ref g5, .ref g8, .int 0, .ref g9, .int 0, .ref g10, .int 0, .int 1, .ref q_2]))]) hD hS hA [2, 3] rfl
  refine va_callv (va_runV (C := R_Pool) (As := []) (rest := []) ⟨hx, hb, hml, hown, hT⟩ (c_Pool_renew l dC dI z H.size hw g13 g14 g1 g3 g4 g5 g6 g8 g9 g10 hs hj hc q_2) ⟨callB_of 0 hT g_Pool_renew rfl rfl rfl (hT _ k_187) (hT _ k_204) (by decide +kernel) ⟨Nat.le_of_ble_eq_true rfl, Nat.le_of_ble_eq_true rfl⟩, (hT _ k_205), (hT _ k_206)⟩ (zz_preV hPc hKc hDc hZ hS hFc hK hP (ci := 9) (q0 := 2) (q := (R_Pool, F_Pool, 7)) rfl rfl) rfl rfl hl.1 rfl (lv_room (Nat.le_of_ble_eq_true rfl)) d_CL_block_33 ⟨Nat.le_of_ble_eq_true rfl, Nat.le_of_ble_eq_true rfl⟩) hS (fun q _ h => hFc q h) hFc (fun u9 t9 H1 locs ht9 hvm9 hw9 hB9 hz19 hk19 hS => ?_)
  have hP1 : va_P (dC, dI) cl_all [] H1 := zz_P0
  have hD1 : va_D (va_A [(hw, .inr (9, [.ref hs, .ref hj, .ref hc, .ref g13, .ref g14, .ref g6, .null])), (hc, .inr (5, [.ref hs, .ref hj, .ref g1, .ref g3, .int 1, .int 0, .ref g4, .ref g6, .ref g5, .ref g8, .int 0, .ref g9, .int 0, .ref g10, .int 0, .int 1, .ref q_2]))] H.size) [] := zz_D0
  obtain ⟨hP, hD⟩ := va_join (wr := [(h0, .inr (0, [.ref ht, .ref ho, .int 0, .int 0, .ref hs, .ref hj, .ref hc, .ref hw, .ref hy, .ref hq])), (ht, .inr (1, [.ref b1, .int 0])), (g6, .inr (6, [.null, .int 0, .ref g7, .int 0, .int 32768, .int 0, .ref g11, .int 0, .null, .int 0, .int 0, .long 0, .int 1, .int 0, .int 1, .int 0, .ref g12]))]) (w1 := []) hP hD [2, 3] [0, 1, 4] rfl rfl (by decide) (by decide) hk19 hFc hP1 hD1
  generalize H1 = H at hP hS ⊢
  have hP : va_P (dC, dI) cl_all [(h0, .inr (0, [.ref ht, .ref ho, .int 0, .int 0, .ref hs, .ref hj, .ref hc, .ref hw, .ref hy, .ref hq])), (ht, .inr (1, [.ref b1, .int 0])), (g6, .inr (6, [.null, .int 0, .ref g7, .int 0, .int 32768, .int 0, .ref g11, .int 0, .null, .int 0, .int 0, .long 0, .int 1, .int 0, .int 1, .int 0, .ref g12]))] H := hP
  have hD : va_D A [(h0, .inr (0, [.ref ht, .ref ho, .int 0, .int 0, .ref hs, .ref hj, .ref hc, .ref hw, .ref hy, .ref hq])), (ht, .inr (1, [.ref b1, .int 0])), (g6, .inr (6, [.null, .int 0, .ref g7, .int 0, .int 32768, .int 0, .ref g11, .int 0, .null, .int 0, .int 0, .long 0, .int 1, .int 0, .int 1, .int 0, .ref g12]))] := hD
  refine lv_aload_n hx hb d_CL_block_36 rfl (lv_at hl 1 rfl) ?_
  refine va_get (D := (dC, dI)) (ci := 0) (v := .ref ht) (C := R_CL) (T := F_CL) (N := 10) hx hb hT i_CL hown hK hP 0 rfl rfl 0 (by decide) (hT _ k_167) (fun _ h9 => h9) rfl d_CL_block_37 ?_
  refine lv_iconst (v := 0) hx hb d_CL_block_40 (by decide) ?_
  refine va_put (D := (dC, dI)) (ci := 1) (v := .int 0) (ty := .int) (C := R_Row) (T := F_Row) (N := 2) hx hb hT i_Row t_Row t_Row_ok n_Row hown hK hP hD hS 1 rfl rfl 1 (by decide) (hT _ k_195) (fun _ h9 => h9) rfl (by decide +kernel) rfl rfl (Nat.le_of_ble_eq_true rfl) d_CL_block_41 (fun H locs hP hD hS => ?_)
  have hP : va_P (dC, dI) cl_all [(h0, .inr (0, [.ref ht, .ref ho, .int 0, .int 0, .ref hs, .ref hj, .ref hc, .ref hw, .ref hy, .ref hq])), (ht, .inr (1, [.ref b1, .int 0])), (g6, .inr (6, [.null, .int 0, .ref g7, .int 0, .int 32768, .int 0, .ref g11, .int 0, .null, .int 0, .int 0, .long 0, .int 1, .int 0, .int 1, .int 0, .ref g12]))] H := hP
  have hD : va_D A [(h0, .inr (0, [.ref ht, .ref ho, .int 0, .int 0, .ref hs, .ref hj, .ref hc, .ref hw, .ref hy, .ref hq])), (ht, .inr (1, [.ref b1, .int 0])), (g6, .inr (6, [.null, .int 0, .ref g7, .int 0, .int 32768, .int 0, .ref g11, .int 0, .null, .int 0, .int 0, .long 0, .int 1, .int 0, .int 1, .int 0, .ref g12]))] := hD
  refine lv_iload_n hx hb d_CL_block_44 rfl (lv_at hl 0 rfl) ?_
  exact W.iret (v := (-3)) hx hb hr (fun t9 ht9 hW9 => ⟨⟨(-3), (), rfl, rfl, trivial⟩, hS.F ht9⟩) hS.2.2 d_CL_block_45
set_option maxHeartbeats 4000000 in
set_option maxRecDepth 100000 in
theorem c_CL_pay (l : Launch) (dC : Nat → ClassId) (dI : Nat → Nat → Nat) (z : zT) (sz : Nat) (h0 ht ho hs hj hc hw hy hq b1 g6 g13 g14 : Nat)  : Met l y_CL_pay w_CL_pay ({ frames := 3, cells := 5, slots := 96, locals := 56 }) (va_Pc [.ref h0] (fun U => U.heap.size = sz ∧ va_P (dC, dI) cl_all [(h0, .inr (0, [.ref ht, .ref ho, .int 0, .int 0, .ref hs, .ref hj, .ref hc, .ref hw, .ref hy, .ref hq])), (ht, .inr (1, [.ref b1, .int 0])), (hw, .inr (9, [.ref hs, .ref hj, .ref hc, .ref g13, .ref g14, .ref g6, .null]))] U.heap ∧ va_K (dC, dI) cl_all [] U ∧ va_D (fun _ => True) [(h0, .inr (0, [.ref ht, .ref ho, .int 0, .int 0, .ref hs, .ref hj, .ref hc, .ref hw, .ref hy, .ref hq])), (ht, .inr (1, [.ref b1, .int 0])), (hw, .inr (9, [.ref hs, .ref hj, .ref hc, .ref g13, .ref g14, .ref g6, .null]))] ∧ zz z (va_A [(h0, .inr (0, [.ref ht, .ref ho, .int 0, .int 0, .ref hs, .ref hj, .ref hc, .ref hw, .ref hy, .ref hq])), (ht, .inr (1, [.ref b1, .int 0])), (hw, .inr (9, [.ref hs, .ref hj, .ref hc, .ref g13, .ref g14, .ref g6, .null]))] sz) U U.heap)) (va_Qi (fun (r : Int32) (_ : Unit) => r = (-3)) (fun _ t => True) (va_A [(h0, .inr (0, [.ref ht, .ref ho, .int 0, .int 0, .ref hs, .ref hj, .ref hc, .ref hw, .ref hy, .ref hq])), (ht, .inr (1, [.ref b1, .int 0])), (hw, .inr (9, [.ref hs, .ref hj, .ref hc, .ref g13, .ref g14, .ref g6, .null]))] sz)) 5 96 (va_A [(h0, .inr (0, [.ref ht, .ref ho, .int 0, .int 0, .ref hs, .ref hj, .ref hc, .ref hw, .ref hy, .ref hq])), (ht, .inr (1, [.ref b1, .int 0])), (hw, .inr (9, [.ref hs, .ref hj, .ref hc, .ref g13, .ref g14, .ref g6, .null]))] sz) := by
  refine Met.ofW (cc := b_CL_pay) (maxL := 2) (ret := (some (.int))) (by decide) rfl ?_
  intro p e s m args below meth c s₁ B hml hv
  obtain ⟨rfl, hsz, hP, hK, hD0, hZ⟩ := hv
  have hx := B.exec
  have hb := B.bytes
  have hr := B.returns
  have hT : ∀ w ∈ lw_all, w.before _ s = true := fun w h => atoms_spec (ws := w_CL_pay) B.pre w (List.mem_cons_of_mem _ h)
  have hown : s.vm.findClass R_CL = some m.cls := findClass_of_methodNamed B.named
  have hlocks := B.notSynchronized
  subst hsz
  have hD := hD0.self (sz := s.heap.size)
  generalize hAe : va_A [(h0, .inr (0, [.ref ht, .ref ho, .int 0, .int 0, .ref hs, .ref hj, .ref hc, .ref hw, .ref hy, .ref hq])), (ht, .inr (1, [.ref b1, .int 0])), (hw, .inr (9, [.ref hs, .ref hj, .ref hc, .ref g13, .ref g14, .ref g6, .null]))] s.heap.size = A at hD hZ ⊢
  have hA : ∀ q : Nat, s.heap.size ≤ q → A q := fun q h => by rw [← hAe]; exact Or.inr h
  have hS : va_S A s.heap s.heap [] := va_S.rf
  have hl := lv_entry ([.ref h0]) (n := 2) (Nat.le_of_ble_eq_true rfl)
  rw [lg_entry_eq]
  generalize (lg_sl ([.ref h0]) ++ List.replicate (2 - (lg_sl ([.ref h0])).length) Slot.unset).toArray = ls at hl ⊢
  have hl : lv_has ls 2 [(0, .ref h0)] := hl
  refine lv_aload_n hx hb d_CL_pay_0 rfl (lv_at hl 0 rfl) ?_
  refine va_get (D := (dC, dI)) (ci := 0) (v := .ref hw) (C := R_CL) (T := F_CL) (N := 10) hx hb hT i_CL hown hK hP 0 rfl rfl 7 (by decide) (hT _ k_190) (fun _ h9 => h9) rfl d_CL_pay_1 ?_
  refine lv_aload_n hx hb d_CL_pay_4 rfl (lv_at hl 0 rfl) ?_
  refine va_get (D := (dC, dI)) (ci := 0) (v := .ref ht) (C := R_CL) (T := F_CL) (N := 10) hx hb hT i_CL hown hK hP 0 rfl rfl 0 (by decide) (hT _ k_167) (fun _ h9 => h9) rfl d_CL_pay_5 ?_
  refine va_get (D := (dC, dI)) (ci := 1) (v := .ref b1) (C := R_Row) (T := F_Row) (N := 2) hx hb hT i_Row hown hK hP 1 rfl rfl 0 (by decide) (hT _ k_197) (fun _ h9 => h9) rfl d_CL_pay_8 ?_
  refine lv_aload_n hx hb d_CL_pay_11 rfl (lv_at hl 0 rfl) ?_
  refine va_get (D := (dC, dI)) (ci := 0) (v := .ref ht) (C := R_CL) (T := F_CL) (N := 10) hx hb hT i_CL hown hK hP 0 rfl rfl 0 (by decide) (hT _ k_167) (fun _ h9 => h9) rfl d_CL_pay_12 ?_
  refine va_get (D := (dC, dI)) (ci := 1) (v := .int 0) (C := R_Row) (T := F_Row) (N := 2) hx hb hT i_Row hown hK hP 1 rfl rfl 1 (by decide) (hT _ k_195) (fun _ h9 => h9) rfl d_CL_pay_15 ?_
  have hPc := hP.sub (ws' := [(hw, .inr (9, [.ref hs, .ref hj, .ref hc, .ref g13, .ref g14, .ref g6, .null]))]) [2] rfl
  have hDc := hD.sub (ws' := [(hw, .inr (9, [.ref hs, .ref hj, .ref hc, .ref g13, .ref g14, .ref g6, .null]))]) [2] (by decide) rfl
  have hKc := hK.sub (tys' := []) [] rfl
  have hFc := va_free (wc := [(hw, .inr (9, [.ref hs, .ref hj, .ref hc, .ref g13, .ref g14, .ref g6, .null]))]) hD hS hA [2] rfl
  refine va_calli (va_runV (C := R_Pool) (As := [.ref b1, .int 0]) (rest := []) ⟨hx, hb, hml, hown, hT⟩ (c_Pool_receive l dC dI z s.heap.size hw g13 g14 hs hj hc g6 b1) ⟨callB_of 2 hT g_Pool_receive rfl rfl rfl (hT _ k_187) (hT _ k_207) (by decide +kernel) ⟨Nat.le_of_ble_eq_true rfl, Nat.le_of_ble_eq_true rfl⟩, (hT _ k_208), (hT _ k_209)⟩ (zz_preV hPc hKc hDc hZ hS hFc hK hP (ci := 9) (q0 := 2) (q := (R_Pool, F_Pool, 7)) rfl rfl) rfl rfl hl.1 rfl (lv_room (Nat.le_of_ble_eq_true rfl)) d_CL_pay_18 ⟨Nat.le_of_ble_eq_true rfl, Nat.le_of_ble_eq_true rfl⟩) hS (fun q _ h => hFc q h) hFc (fun r_1 u9 t9 H1 locs ht9 hvm9 hw9 hB9 hz19 hk19 hS => ?_)
  have hP1 : va_P (dC, dI) cl_all [] H1 := zz_P0
  have hD1 : va_D (va_A [(hw, .inr (9, [.ref hs, .ref hj, .ref hc, .ref g13, .ref g14, .ref g6, .null]))] s.heap.size) [] := zz_D0
  obtain ⟨hP, hD⟩ := va_join (wr := [(h0, .inr (0, [.ref ht, .ref ho, .int 0, .int 0, .ref hs, .ref hj, .ref hc, .ref hw, .ref hy, .ref hq])), (ht, .inr (1, [.ref b1, .int 0]))]) (w1 := []) hP hD [2] [0, 1] rfl rfl (by decide) (by decide) hk19 hFc hP1 hD1
  generalize H1 = H at hP hS ⊢
  have hP : va_P (dC, dI) cl_all [(h0, .inr (0, [.ref ht, .ref ho, .int 0, .int 0, .ref hs, .ref hj, .ref hc, .ref hw, .ref hy, .ref hq])), (ht, .inr (1, [.ref b1, .int 0]))] H := hP
  have hD : va_D A [(h0, .inr (0, [.ref ht, .ref ho, .int 0, .int 0, .ref hs, .ref hj, .ref hc, .ref hw, .ref hy, .ref hq])), (ht, .inr (1, [.ref b1, .int 0]))] := hD
  refine W.widen (k := 5) (n := 96) (Nat.le_of_ble_eq_true rfl) (Nat.le_of_ble_eq_true rfl) ?_
  refine zz_i (v := (-3)) hw9 ?_
  refine lv_istore_n (lv' := [(1, .int (-3)), (0, .ref h0)]) hx hb d_CL_pay_21 rfl hl (by decide) rfl (fun ls hl => ?_)
  refine lv_aload_n hx hb d_CL_pay_22 rfl (lv_at hl 1 rfl) ?_
  refine va_get (D := (dC, dI)) (ci := 0) (v := .ref ht) (C := R_CL) (T := F_CL) (N := 10) hx hb hT i_CL hown hK hP 0 rfl rfl 0 (by decide) (hT _ k_167) (fun _ h9 => h9) rfl d_CL_pay_23 ?_
  refine lv_iconst (v := 0) hx hb d_CL_pay_26 (by decide) ?_
  refine va_put (D := (dC, dI)) (ci := 1) (v := .int 0) (ty := .int) (C := R_Row) (T := F_Row) (N := 2) hx hb hT i_Row t_Row t_Row_ok n_Row hown hK hP hD hS 1 rfl rfl 1 (by decide) (hT _ k_195) (fun _ h9 => h9) rfl (by decide +kernel) rfl rfl (Nat.le_of_ble_eq_true rfl) d_CL_pay_27 (fun H locs hP hD hS => ?_)
  have hP : va_P (dC, dI) cl_all [(h0, .inr (0, [.ref ht, .ref ho, .int 0, .int 0, .ref hs, .ref hj, .ref hc, .ref hw, .ref hy, .ref hq])), (ht, .inr (1, [.ref b1, .int 0]))] H := hP
  have hD : va_D A [(h0, .inr (0, [.ref ht, .ref ho, .int 0, .int 0, .ref hs, .ref hj, .ref hc, .ref hw, .ref hy, .ref hq])), (ht, .inr (1, [.ref b1, .int 0]))] := hD
  refine lv_iload_n hx hb d_CL_pay_30 rfl (lv_at hl 0 rfl) ?_
  exact W.iret (v := (-3)) hx hb hr (fun t9 ht9 hW9 => ⟨⟨(-3), (), rfl, rfl, trivial⟩, hS.F ht9⟩) hS.2.2 d_CL_pay_31
set_option maxHeartbeats 4000000 in
set_option maxRecDepth 100000 in
theorem c_CL_mine (l : Launch) (dC : Nat → ClassId) (dI : Nat → Nat → Nat) (z : zT) (sz : Nat) (h0 ht ho hs hj hc hw hy hq : Nat) (x1 : Int32)  : Met l y_CL_mine w_CL_mine ({ frames := 0, cells := 0, slots := 0, locals := 0 }) (va_Pc [.ref h0, .int x1] (fun U => U.heap.size = sz ∧ va_P (dC, dI) cl_all [(h0, .inr (0, [.ref ht, .ref ho, .int 0, .int 0, .ref hs, .ref hj, .ref hc, .ref hw, .ref hy, .ref hq]))] U.heap ∧ va_K (dC, dI) cl_all [] U ∧ va_D (fun _ => True) [(h0, .inr (0, [.ref ht, .ref ho, .int 0, .int 0, .ref hs, .ref hj, .ref hc, .ref hw, .ref hy, .ref hq]))] ∧ zz z (va_A [(h0, .inr (0, [.ref ht, .ref ho, .int 0, .int 0, .ref hs, .ref hj, .ref hc, .ref hw, .ref hy, .ref hq]))] sz) U U.heap)) (va_Qi (fun (r : Int32) (_ : Unit) => r = (-1)) (fun _ t => True) (va_A [(h0, .inr (0, [.ref ht, .ref ho, .int 0, .int 0, .ref hs, .ref hj, .ref hc, .ref hw, .ref hy, .ref hq]))] sz)) 0 0 (va_A [(h0, .inr (0, [.ref ht, .ref ho, .int 0, .int 0, .ref hs, .ref hj, .ref hc, .ref hw, .ref hy, .ref hq]))] sz) := by
  refine Met.ofW (cc := b_CL_mine) (maxL := 4) (ret := (some (.int))) (by decide) rfl ?_
  intro p e s m args below meth c s₁ B hml hv
  obtain ⟨rfl, hsz, hP, hK, hD0, hZ⟩ := hv
  have hx := B.exec
  have hb := B.bytes
  have hr := B.returns
  have hT : ∀ w ∈ lw_all, w.before _ s = true := fun w h => atoms_spec (ws := w_CL_mine) B.pre w (List.mem_cons_of_mem _ h)
  have hown : s.vm.findClass R_CL = some m.cls := findClass_of_methodNamed B.named
  have hlocks := B.notSynchronized
  subst hsz
  have hD := hD0.self (sz := s.heap.size)
  generalize hAe : va_A [(h0, .inr (0, [.ref ht, .ref ho, .int 0, .int 0, .ref hs, .ref hj, .ref hc, .ref hw, .ref hy, .ref hq]))] s.heap.size = A at hD hZ ⊢
  have hA : ∀ q : Nat, s.heap.size ≤ q → A q := fun q h => by rw [← hAe]; exact Or.inr h
  have hS : va_S A s.heap s.heap [] := va_S.rf
  have hl := lv_entry ([.ref h0, .int x1]) (n := 4) (Nat.le_of_ble_eq_true rfl)
  rw [lg_entry_eq]
  generalize (lg_sl ([.ref h0, .int x1]) ++ List.replicate (4 - (lg_sl ([.ref h0, .int x1])).length) Slot.unset).toArray = ls at hl ⊢
  have hl : lv_has ls 4 [(0, .ref h0), (1, .int x1)] := hl
  refine lv_iload_n hx hb d_CL_mine_0 rfl (lv_at hl 1 rfl) ?_
  refine lv_iconst (v := 1) hx hb d_CL_mine_1 (by decide) ?_
  refine lv_icmp_lt (tgt := 20) hx hb d_CL_mine_2 (by decide) (fun c_1 => ?_) (fun c_1 => ?_)
  · refine lv_iconst (v := -1) hx hb d_CL_mine_20 (by decide) ?_
    exact W.iret (v := (-1)) hx hb hr (fun t9 ht9 hW9 => ⟨⟨(-1), (), rfl, rfl, trivial⟩, hS.F ht9⟩) hS.2.2 d_CL_mine_21
  · refine lv_iload_n hx hb d_CL_mine_5 rfl (lv_at hl 1 rfl) ?_
    refine lv_sipush (v := 2000) hx hb d_CL_mine_6 (by decide) ?_
    refine lv_icmp_gt (tgt := 20) hx hb d_CL_mine_9 (by decide) (fun c_2 => ?_) (fun c_2 => ?_)
    · refine lv_iconst (v := -1) hx hb d_CL_mine_20 (by decide) ?_
      exact W.iret (v := (-1)) hx hb hr (fun t9 ht9 hW9 => ⟨⟨(-1), (), rfl, rfl, trivial⟩, hS.F ht9⟩) hS.2.2 d_CL_mine_21
    · refine lv_aload_n hx hb d_CL_mine_12 rfl (lv_at hl 0 rfl) ?_
      refine va_get (D := (dC, dI)) (ci := 0) (v := .int 0) (C := R_CL) (T := F_CL) (N := 10) hx hb hT i_CL hown hK hP 0 rfl rfl 2 (by decide) (hT _ k_157) (fun _ h9 => h9) rfl d_CL_mine_13 ?_
      refine lv_iconst (v := 1) hx hb d_CL_mine_16 (by decide) ?_
      refine lv_icmp_eq (tgt := 22) hx hb d_CL_mine_17 (by decide) (fun h => absurd h (by decide)) (fun _ => ?_)
      refine lv_iconst (v := -1) hx hb d_CL_mine_20 (by decide) ?_
      exact W.iret (v := (-1)) hx hb hr (fun t9 ht9 hW9 => ⟨⟨(-1), (), rfl, rfl, trivial⟩, hS.F ht9⟩) hS.2.2 d_CL_mine_21
set_option maxHeartbeats 4000000 in
set_option maxRecDepth 100000 in
theorem c_CL_spend (l : Launch) (dC : Nat → ClassId) (dI : Nat → Nat → Nat) (z : zT) (sz : Nat) (h0 ht ho hs hj hc hw hy hq g1 g3 g4 g5 g6 g8 g9 g10 g2 : Nat) (x1 x2 x3 x4 x5 : Int32)  : Met l y_CL_spend w_CL_spend ({ frames := 1, cells := 0, slots := 0, locals := 20 }) (va_Pc [.ref h0, .int x1, .int x2, .int x3, .int x4, .int x5] (fun U => U.heap.size = sz ∧ va_P (dC, dI) cl_all [(h0, .inr (0, [.ref ht, .ref ho, .int 0, .int 0, .ref hs, .ref hj, .ref hc, .ref hw, .ref hy, .ref hq])), (hc, .inr (5, [.ref hs, .ref hj, .ref g1, .ref g3, .int 1, .int 0, .ref g4, .ref g6, .ref g5, .ref g8, .int 0, .ref g9, .int 0, .ref g10, .int 0, .int 1, .null])), (g1, .inr (8, [.ref g2])), (g2, .inr (10, [.int 0, .ref z.1, .int 0]))] U.heap ∧ va_K (dC, dI) cl_all [] U ∧ va_D (fun _ => True) [(h0, .inr (0, [.ref ht, .ref ho, .int 0, .int 0, .ref hs, .ref hj, .ref hc, .ref hw, .ref hy, .ref hq])), (hc, .inr (5, [.ref hs, .ref hj, .ref g1, .ref g3, .int 1, .int 0, .ref g4, .ref g6, .ref g5, .ref g8, .int 0, .ref g9, .int 0, .ref g10, .int 0, .int 1, .null])), (g1, .inr (8, [.ref g2])), (g2, .inr (10, [.int 0, .ref z.1, .int 0]))] ∧ zz z (va_A [(h0, .inr (0, [.ref ht, .ref ho, .int 0, .int 0, .ref hs, .ref hj, .ref hc, .ref hw, .ref hy, .ref hq])), (hc, .inr (5, [.ref hs, .ref hj, .ref g1, .ref g3, .int 1, .int 0, .ref g4, .ref g6, .ref g5, .ref g8, .int 0, .ref g9, .int 0, .ref g10, .int 0, .int 1, .null])), (g1, .inr (8, [.ref g2])), (g2, .inr (10, [.int 0, .ref z.1, .int 0]))] sz) U U.heap)) (va_Qi (fun (r : Int32) (_ : Unit) => r = (-1)) (fun _ t => True) (va_A [(h0, .inr (0, [.ref ht, .ref ho, .int 0, .int 0, .ref hs, .ref hj, .ref hc, .ref hw, .ref hy, .ref hq])), (hc, .inr (5, [.ref hs, .ref hj, .ref g1, .ref g3, .int 1, .int 0, .ref g4, .ref g6, .ref g5, .ref g8, .int 0, .ref g9, .int 0, .ref g10, .int 0, .int 1, .null])), (g1, .inr (8, [.ref g2])), (g2, .inr (10, [.int 0, .ref z.1, .int 0]))] sz)) 0 0 (va_A [(h0, .inr (0, [.ref ht, .ref ho, .int 0, .int 0, .ref hs, .ref hj, .ref hc, .ref hw, .ref hy, .ref hq])), (hc, .inr (5, [.ref hs, .ref hj, .ref g1, .ref g3, .int 1, .int 0, .ref g4, .ref g6, .ref g5, .ref g8, .int 0, .ref g9, .int 0, .ref g10, .int 0, .int 1, .null])), (g1, .inr (8, [.ref g2])), (g2, .inr (10, [.int 0, .ref z.1, .int 0]))] sz) := by
  refine Met.ofW (cc := b_CL_spend) (maxL := 10) (ret := (some (.int))) (by decide) rfl ?_
  intro p e s m args below meth c s₁ B hml hv
  obtain ⟨rfl, hsz, hP, hK, hD0, hZ⟩ := hv
  have hx := B.exec
  have hb := B.bytes
  have hr := B.returns
  have hT : ∀ w ∈ lw_all, w.before _ s = true := fun w h => atoms_spec (ws := w_CL_spend) B.pre w (List.mem_cons_of_mem _ h)
  have hown : s.vm.findClass R_CL = some m.cls := findClass_of_methodNamed B.named
  have hlocks := B.notSynchronized
  subst hsz
  have hD := hD0.self (sz := s.heap.size)
  generalize hAe : va_A [(h0, .inr (0, [.ref ht, .ref ho, .int 0, .int 0, .ref hs, .ref hj, .ref hc, .ref hw, .ref hy, .ref hq])), (hc, .inr (5, [.ref hs, .ref hj, .ref g1, .ref g3, .int 1, .int 0, .ref g4, .ref g6, .ref g5, .ref g8, .int 0, .ref g9, .int 0, .ref g10, .int 0, .int 1, .null])), (g1, .inr (8, [.ref g2])), (g2, .inr (10, [.int 0, .ref z.1, .int 0]))] s.heap.size = A at hD hZ ⊢
  have hA : ∀ q : Nat, s.heap.size ≤ q → A q := fun q h => by rw [← hAe]; exact Or.inr h
  have hS : va_S A s.heap s.heap [] := va_S.rf
  have hl := lv_entry ([.ref h0, .int x1, .int x2, .int x3, .int x4, .int x5]) (n := 10) (Nat.le_of_ble_eq_true rfl)
  rw [lg_entry_eq]
  generalize (lg_sl ([.ref h0, .int x1, .int x2, .int x3, .int x4, .int x5]) ++ List.replicate (10 - (lg_sl ([.ref h0, .int x1, .int x2, .int x3, .int x4, .int x5])).length) Slot.unset).toArray = ls at hl ⊢
  have hl : lv_has ls 10 [(0, .ref h0), (1, .int x1), (2, .int x2), (3, .int x3), (4, .int x4), (5, .int x5)] := hl
  refine lv_iload_n hx hb d_CL_spend_0 rfl (lv_at hl 2 rfl) ?_
  refine lv_iconst (v := 1) hx hb d_CL_spend_1 (by decide) ?_
  refine lv_icmp_lt (tgt := 21) hx hb d_CL_spend_2 (by decide) (fun c_1 => ?_) (fun c_1 => ?_)
  · refine lv_iconst (v := -1) hx hb d_CL_spend_21 (by decide) ?_
    exact W.iret (v := (-1)) hx hb hr (fun t9 ht9 hW9 => ⟨⟨(-1), (), rfl, rfl, trivial⟩, hS.F ht9⟩) hS.2.2 d_CL_spend_22
  · refine lv_iload_n hx hb d_CL_spend_5 rfl (lv_at hl 2 rfl) ?_
    refine lv_bipush (v := 8) hx hb d_CL_spend_6 (by decide) ?_
    refine lv_icmp_gt (tgt := 21) hx hb d_CL_spend_8 (by decide) (fun c_2 => ?_) (fun c_2 => ?_)
    · refine lv_iconst (v := -1) hx hb d_CL_spend_21 (by decide) ?_
      exact W.iret (v := (-1)) hx hb hr (fun t9 ht9 hW9 => ⟨⟨(-1), (), rfl, rfl, trivial⟩, hS.F ht9⟩) hS.2.2 d_CL_spend_22
    · refine lv_iload hx hb d_CL_spend_11 (lv_at hl 4 rfl) ?_
      refine lv_if_lt (tgt := 21) hx hb d_CL_spend_13 (by decide) (fun c_3 => ?_) (fun c_3 => ?_)
      · refine lv_iconst (v := -1) hx hb d_CL_spend_21 (by decide) ?_
        exact W.iret (v := (-1)) hx hb hr (fun t9 ht9 hW9 => ⟨⟨(-1), (), rfl, rfl, trivial⟩, hS.F ht9⟩) hS.2.2 d_CL_spend_22
      · refine lv_iload hx hb d_CL_spend_16 (lv_at hl 5 rfl) ?_
        refine lv_if_ge (tgt := 23) hx hb d_CL_spend_18 (by decide) (fun c_4 => ?_) (fun c_4 => ?_)
        · refine lv_iload_n hx hb d_CL_spend_23 rfl (lv_at hl 1 rfl) ?_
          refine lv_if_lt (tgt := 46) hx hb d_CL_spend_24 (by decide) (fun c_5 => ?_) (fun c_5 => ?_)
          · refine lv_iconst (v := -1) hx hb d_CL_spend_46 (by decide) ?_
            exact W.iret (v := (-1)) hx hb hr (fun t9 ht9 hW9 => ⟨⟨(-1), (), rfl, rfl, trivial⟩, hS.F ht9⟩) hS.2.2 d_CL_spend_47
          · refine lv_iload_n hx hb d_CL_spend_27 rfl (lv_at hl 1 rfl) ?_
            refine lv_aload_n hx hb d_CL_spend_28 rfl (lv_at hl 0 rfl) ?_
            refine va_get (D := (dC, dI)) (ci := 0) (v := .ref hc) (C := R_CL) (T := F_CL) (N := 10) hx hb hT i_CL hown hK hP 0 rfl rfl 6 (by decide) (hT _ k_184) (fun _ h9 => h9) rfl d_CL_spend_29 ?_
            refine va_get (D := (dC, dI)) (ci := 5) (v := .ref g1) (C := R_Chain) (T := F_Chain) (N := 17) hx hb hT i_Chain hown hK hP 1 rfl rfl 2 (by decide) (hT _ k_210) (fun _ h9 => h9) rfl d_CL_spend_32 ?_
            refine va_get (D := (dC, dI)) (ci := 8) (v := .ref g2) (C := R_Coins) (T := F_Coins) (N := 1) hx hb hT i_Coins hown hK hP 2 rfl rfl 0 (by decide) (hT _ k_211) (fun _ h9 => h9) rfl d_CL_spend_35 ?_
            have hPc := hP.sub (ws' := [(g2, .inr (10, [.int 0, .ref z.1, .int 0]))]) [3] rfl
            have hDc := hD.sub (ws' := [(g2, .inr (10, [.int 0, .ref z.1, .int 0]))]) [3] (by decide) rfl
            have hKc := hK.sub (tys' := []) [] rfl
            have hFc := va_free (wc := [(g2, .inr (10, [.int 0, .ref z.1, .int 0]))]) hD hS hA [3] rfl
            refine va_calli (va_runV (C := R_AL) (As := []) (rest := [.int x1]) ⟨hx, hb, hml, hown, hT⟩ (c_AL_size l dC dI z s.heap.size g2 0 (z.1) 0) ⟨callB_of 0 hT g_AL_size rfl rfl rfl (hT _ k_27) (hT _ k_212) (by decide +kernel) ⟨Nat.le_of_ble_eq_true rfl, Nat.le_of_ble_eq_true rfl⟩, (hT _ k_154), (hT _ k_155)⟩ (zz_preV hPc hKc hDc hZ hS hFc hK hP (ci := 10) (q0 := 3) (q := (R_AL, F_AL, 3)) rfl rfl) rfl rfl hl.1 rfl (lv_room (Nat.le_of_ble_eq_true rfl)) d_CL_spend_38 ⟨Nat.le_of_ble_eq_true rfl, Nat.le_of_ble_eq_true rfl⟩) hS (fun q _ h => hFc q h) hFc (fun r_6 u9 t9 H1 locs ht9 hvm9 hw9 hB9 hz19 hk19 hS => ?_)
            obtain ⟨hP1, hK1, hD1⟩ := hB9
            rw [ht9] at hP1
            obtain ⟨hP, hD⟩ := va_join (wr := [(h0, .inr (0, [.ref ht, .ref ho, .int 0, .int 0, .ref hs, .ref hj, .ref hc, .ref hw, .ref hy, .ref hq])), (hc, .inr (5, [.ref hs, .ref hj, .ref g1, .ref g3, .int 1, .int 0, .ref g4, .ref g6, .ref g5, .ref g8, .int 0, .ref g9, .int 0, .ref g10, .int 0, .int 1, .null])), (g1, .inr (8, [.ref g2]))]) (w1 := [(g2, .inr (10, [.int 0, .ref z.1, .int 0]))]) hP hD [3] [0, 1, 2] rfl rfl (by decide) (by decide) hk19 hFc hP1 hD1
            generalize H1 = H at hP hS ⊢
            have hP : va_P (dC, dI) cl_all [(h0, .inr (0, [.ref ht, .ref ho, .int 0, .int 0, .ref hs, .ref hj, .ref hc, .ref hw, .ref hy, .ref hq])), (hc, .inr (5, [.ref hs, .ref hj, .ref g1, .ref g3, .int 1, .int 0, .ref g4, .ref g6, .ref g5, .ref g8, .int 0, .ref g9, .int 0, .ref g10, .int 0, .int 1, .null])), (g1, .inr (8, [.ref g2])), (g2, .inr (10, [.int 0, .ref z.1, .int 0]))] H := hP
            have hD : va_D A [(h0, .inr (0, [.ref ht, .ref ho, .int 0, .int 0, .ref hs, .ref hj, .ref hc, .ref hw, .ref hy, .ref hq])), (hc, .inr (5, [.ref hs, .ref hj, .ref g1, .ref g3, .int 1, .int 0, .ref g4, .ref g6, .ref g5, .ref g8, .int 0, .ref g9, .int 0, .ref g10, .int 0, .int 1, .null])), (g1, .inr (8, [.ref g2])), (g2, .inr (10, [.int 0, .ref z.1, .int 0]))] := hD
            refine zz_i (v := 0) hw9 ?_
            refine lv_iload_n hx hb d_CL_spend_41 rfl (lv_at hl 2 rfl) ?_
            refine lv_isub hx hb d_CL_spend_42 ?_
            refine lv_icmp_le (tgt := 48) hx hb d_CL_spend_43 (by decide) (fun h => absurd h (zz_sp c_1 c_2 c_5)) (fun _ => ?_)
            refine lv_iconst (v := -1) hx hb d_CL_spend_46 (by decide) ?_
            exact W.iret (v := (-1)) hx hb hr (fun t9 ht9 hW9 => ⟨⟨(-1), (), rfl, rfl, trivial⟩, hS.F ht9⟩) hS.2.2 d_CL_spend_47
        · refine lv_iconst (v := -1) hx hb d_CL_spend_21 (by decide) ?_
          exact W.iret (v := (-1)) hx hb hr (fun t9 ht9 hW9 => ⟨⟨(-1), (), rfl, rfl, trivial⟩, hS.F ht9⟩) hS.2.2 d_CL_spend_22
set_option maxHeartbeats 4000000 in
set_option maxRecDepth 100000 in
theorem c_CL_sign (l : Launch) (dC : Nat → ClassId) (dI : Nat → Nat → Nat) (z : zT) (sz : Nat) (h0 ht ho hs hj hc hw hy hq : Nat) (x1 x2 : Int32)  : Met l y_CL_sign w_CL_sign ({ frames := 1, cells := 0, slots := 0, locals := 20 }) (va_Pc [.ref h0, .int x1, .int x2] (fun U => U.heap.size = sz ∧ va_P (dC, dI) cl_all [(h0, .inr (0, [.ref ht, .ref ho, .int 0, .int 0, .ref hs, .ref hj, .ref hc, .ref hw, .ref hy, .ref hq]))] U.heap ∧ va_K (dC, dI) cl_all [] U ∧ va_D (fun _ => True) [(h0, .inr (0, [.ref ht, .ref ho, .int 0, .int 0, .ref hs, .ref hj, .ref hc, .ref hw, .ref hy, .ref hq]))] ∧ zz z (va_A [(h0, .inr (0, [.ref ht, .ref ho, .int 0, .int 0, .ref hs, .ref hj, .ref hc, .ref hw, .ref hy, .ref hq]))] sz) U U.heap)) (va_Qi (fun (r : Int32) (_ : Unit) => r = (-1)) (fun _ t => True) (va_A [(h0, .inr (0, [.ref ht, .ref ho, .int 0, .int 0, .ref hs, .ref hj, .ref hc, .ref hw, .ref hy, .ref hq]))] sz)) 0 0 (va_A [(h0, .inr (0, [.ref ht, .ref ho, .int 0, .int 0, .ref hs, .ref hj, .ref hc, .ref hw, .ref hy, .ref hq]))] sz) := by
  refine Met.ofW (cc := b_CL_sign) (maxL := 4) (ret := (some (.int))) (by decide) rfl ?_
  intro p e s m args below meth c s₁ B hml hv
  obtain ⟨rfl, hsz, hP, hK, hD0, hZ⟩ := hv
  have hx := B.exec
  have hb := B.bytes
  have hr := B.returns
  have hT : ∀ w ∈ lw_all, w.before _ s = true := fun w h => atoms_spec (ws := w_CL_sign) B.pre w (List.mem_cons_of_mem _ h)
  have hown : s.vm.findClass R_CL = some m.cls := findClass_of_methodNamed B.named
  have hlocks := B.notSynchronized
  subst hsz
  have hD := hD0.self (sz := s.heap.size)
  generalize hAe : va_A [(h0, .inr (0, [.ref ht, .ref ho, .int 0, .int 0, .ref hs, .ref hj, .ref hc, .ref hw, .ref hy, .ref hq]))] s.heap.size = A at hD hZ ⊢
  have hA : ∀ q : Nat, s.heap.size ≤ q → A q := fun q h => by rw [← hAe]; exact Or.inr h
  have hS : va_S A s.heap s.heap [] := va_S.rf
  have hl := lv_entry ([.ref h0, .int x1, .int x2]) (n := 4) (Nat.le_of_ble_eq_true rfl)
  rw [lg_entry_eq]
  generalize (lg_sl ([.ref h0, .int x1, .int x2]) ++ List.replicate (4 - (lg_sl ([.ref h0, .int x1, .int x2])).length) Slot.unset).toArray = ls at hl ⊢
  have hl : lv_has ls 4 [(0, .ref h0), (1, .int x1), (2, .int x2)] := hl
  refine lv_aload_n hx hb d_CL_sign_0 rfl (lv_at hl 0 rfl) ?_
  have hPc := hP.sub (ws' := [(h0, .inr (0, [.ref ht, .ref ho, .int 0, .int 0, .ref hs, .ref hj, .ref hc, .ref hw, .ref hy, .ref hq]))]) [0] rfl
  have hDc := hD.sub (ws' := [(h0, .inr (0, [.ref ht, .ref ho, .int 0, .int 0, .ref hs, .ref hj, .ref hc, .ref hw, .ref hy, .ref hq]))]) [0] (by decide) rfl
  have hKc := hK.sub (tys' := []) [] rfl
  have hFc := va_free (wc := [(h0, .inr (0, [.ref ht, .ref ho, .int 0, .int 0, .ref hs, .ref hj, .ref hc, .ref hw, .ref hy, .ref hq]))]) hD hS hA [0] rfl
  refine va_calli (va_runV (C := R_CL) (As := []) (rest := []) ⟨hx, hb, hml, hown, hT⟩ (c_CL_readOutPayment l dC dI z s.heap.size h0 ht ho hs hj hc hw hy hq) ⟨callB_of 0 hT g_CL_readOutPayment rfl rfl rfl (hT _ k_100) (hT _ k_213) (by decide +kernel) ⟨Nat.le_of_ble_eq_true rfl, Nat.le_of_ble_eq_true rfl⟩, (hT _ k_214), (hT _ k_215)⟩ (zz_preV hPc hKc hDc hZ hS hFc hK hP (ci := 0) (q0 := 0) (q := (R_CL, F_CL, 10)) rfl rfl) rfl rfl hl.1 rfl (lv_room (Nat.le_of_ble_eq_true rfl)) d_CL_sign_1 ⟨Nat.le_of_ble_eq_true rfl, Nat.le_of_ble_eq_true rfl⟩) hS (fun q _ h => hFc q h) hFc (fun r_1 u9 t9 H1 locs ht9 hvm9 hw9 hB9 hz19 hk19 hS => ?_)
  have hP1 : va_P (dC, dI) cl_all [] H1 := zz_P0
  have hD1 : va_D (va_A [(h0, .inr (0, [.ref ht, .ref ho, .int 0, .int 0, .ref hs, .ref hj, .ref hc, .ref hw, .ref hy, .ref hq]))] s.heap.size) [] := zz_D0
  obtain ⟨hP, hD⟩ := va_join (wr := []) (w1 := []) hP hD [0] [] rfl rfl (by decide) (by decide) hk19 hFc hP1 hD1
  generalize H1 = H at hP hS ⊢
  have hP : va_P (dC, dI) cl_all [] H := hP
  have hD : va_D A [] := hD
  refine zz_i (v := 0) hw9 ?_
  refine lv_if_eq (tgt := 22) hx hb d_CL_sign_4 (by decide) (fun _ => ?_) (fun h => absurd (by decide) h)
  refine lv_iconst (v := -1) hx hb d_CL_sign_22 (by decide) ?_
  exact W.iret (v := (-1)) hx hb hr (fun t9 ht9 hW9 => ⟨⟨(-1), (), rfl, rfl, trivial⟩, hS.F ht9⟩) hS.2.2 d_CL_sign_23
set_option maxHeartbeats 4000000 in
set_option maxRecDepth 100000 in
theorem c_CL_script (l : Launch) (dC : Nat → ClassId) (dI : Nat → Nat → Nat) (z : zT) (sz : Nat) (h0 ht ho hs hj hc hw hy hq b1 : Nat) (x1 : Int32)  : Met l y_CL_script w_CL_script ({ frames := 1, cells := 0, slots := 0, locals := 20 }) (va_Pc [.ref h0, .int x1] (fun U => U.heap.size = sz ∧ va_P (dC, dI) cl_all [(h0, .inr (0, [.ref ht, .ref ho, .int 0, .int 0, .ref hs, .ref hj, .ref hc, .ref hw, .ref hy, .ref hq])), (ht, .inr (1, [.ref b1, .int 0]))] U.heap ∧ va_K (dC, dI) cl_all [] U ∧ va_D (fun _ => True) [(h0, .inr (0, [.ref ht, .ref ho, .int 0, .int 0, .ref hs, .ref hj, .ref hc, .ref hw, .ref hy, .ref hq])), (ht, .inr (1, [.ref b1, .int 0]))] ∧ zz z (va_A [(h0, .inr (0, [.ref ht, .ref ho, .int 0, .int 0, .ref hs, .ref hj, .ref hc, .ref hw, .ref hy, .ref hq])), (ht, .inr (1, [.ref b1, .int 0]))] sz) U U.heap)) (va_Qi (fun (r : Int32) (_ : Unit) => r = (-1)) (fun _ t => True) (va_A [(h0, .inr (0, [.ref ht, .ref ho, .int 0, .int 0, .ref hs, .ref hj, .ref hc, .ref hw, .ref hy, .ref hq])), (ht, .inr (1, [.ref b1, .int 0]))] sz)) 0 0 (va_A [(h0, .inr (0, [.ref ht, .ref ho, .int 0, .int 0, .ref hs, .ref hj, .ref hc, .ref hw, .ref hy, .ref hq])), (ht, .inr (1, [.ref b1, .int 0]))] sz) := by
  refine Met.ofW (cc := b_CL_script) (maxL := 3) (ret := (some (.int))) (by decide) rfl ?_
  intro p e s m args below meth c s₁ B hml hv
  obtain ⟨rfl, hsz, hP, hK, hD0, hZ⟩ := hv
  have hx := B.exec
  have hb := B.bytes
  have hr := B.returns
  have hT : ∀ w ∈ lw_all, w.before _ s = true := fun w h => atoms_spec (ws := w_CL_script) B.pre w (List.mem_cons_of_mem _ h)
  have hown : s.vm.findClass R_CL = some m.cls := findClass_of_methodNamed B.named
  have hlocks := B.notSynchronized
  subst hsz
  have hD := hD0.self (sz := s.heap.size)
  generalize hAe : va_A [(h0, .inr (0, [.ref ht, .ref ho, .int 0, .int 0, .ref hs, .ref hj, .ref hc, .ref hw, .ref hy, .ref hq])), (ht, .inr (1, [.ref b1, .int 0]))] s.heap.size = A at hD hZ ⊢
  have hA : ∀ q : Nat, s.heap.size ≤ q → A q := fun q h => by rw [← hAe]; exact Or.inr h
  have hS : va_S A s.heap s.heap [] := va_S.rf
  have hl := lv_entry ([.ref h0, .int x1]) (n := 3) (Nat.le_of_ble_eq_true rfl)
  rw [lg_entry_eq]
  generalize (lg_sl ([.ref h0, .int x1]) ++ List.replicate (3 - (lg_sl ([.ref h0, .int x1])).length) Slot.unset).toArray = ls at hl ⊢
  have hl : lv_has ls 3 [(0, .ref h0), (1, .int x1)] := hl
  refine lv_aload_n hx hb d_CL_script_0 rfl (lv_at hl 0 rfl) ?_
  refine va_get (D := (dC, dI)) (ci := 0) (v := .ref ht) (C := R_CL) (T := F_CL) (N := 10) hx hb hT i_CL hown hK hP 0 rfl rfl 0 (by decide) (hT _ k_167) (fun _ h9 => h9) rfl d_CL_script_1 ?_
  refine va_get (D := (dC, dI)) (ci := 1) (v := .int 0) (C := R_Row) (T := F_Row) (N := 2) hx hb hT i_Row hown hK hP 1 rfl rfl 1 (by decide) (hT _ k_195) (fun _ h9 => h9) rfl d_CL_script_4 ?_
  refine lv_bipush (v := 80) hx hb d_CL_script_7 (by decide) ?_
  refine lv_icmp_gt (tgt := 19) hx hb d_CL_script_9 (by decide) (fun h => absurd h (by decide)) (fun _ => ?_)
  refine lv_aload_n hx hb d_CL_script_12 rfl (lv_at hl 0 rfl) ?_
  have hPc := hP.sub (ws' := [(h0, .inr (0, [.ref ht, .ref ho, .int 0, .int 0, .ref hs, .ref hj, .ref hc, .ref hw, .ref hy, .ref hq]))]) [0] rfl
  have hDc := hD.sub (ws' := [(h0, .inr (0, [.ref ht, .ref ho, .int 0, .int 0, .ref hs, .ref hj, .ref hc, .ref hw, .ref hy, .ref hq]))]) [0] (by decide) rfl
  have hKc := hK.sub (tys' := []) [] rfl
  have hFc := va_free (wc := [(h0, .inr (0, [.ref ht, .ref ho, .int 0, .int 0, .ref hs, .ref hj, .ref hc, .ref hw, .ref hy, .ref hq]))]) hD hS hA [0] rfl
  refine va_calli (va_runV (C := R_CL) (As := []) (rest := []) ⟨hx, hb, hml, hown, hT⟩ (c_CL_readOutPayment l dC dI z s.heap.size h0 ht ho hs hj hc hw hy hq) ⟨callB_of 0 hT g_CL_readOutPayment rfl rfl rfl (hT _ k_100) (hT _ k_213) (by decide +kernel) ⟨Nat.le_of_ble_eq_true rfl, Nat.le_of_ble_eq_true rfl⟩, (hT _ k_214), (hT _ k_215)⟩ (zz_preV hPc hKc hDc hZ hS hFc hK hP (ci := 0) (q0 := 0) (q := (R_CL, F_CL, 10)) rfl rfl) rfl rfl hl.1 rfl (lv_room (Nat.le_of_ble_eq_true rfl)) d_CL_script_13 ⟨Nat.le_of_ble_eq_true rfl, Nat.le_of_ble_eq_true rfl⟩) hS (fun q _ h => hFc q h) hFc (fun r_1 u9 t9 H1 locs ht9 hvm9 hw9 hB9 hz19 hk19 hS => ?_)
  have hP1 : va_P (dC, dI) cl_all [] H1 := zz_P0
  have hD1 : va_D (va_A [(h0, .inr (0, [.ref ht, .ref ho, .int 0, .int 0, .ref hs, .ref hj, .ref hc, .ref hw, .ref hy, .ref hq]))] s.heap.size) [] := zz_D0
  obtain ⟨hP, hD⟩ := va_join (wr := [(ht, .inr (1, [.ref b1, .int 0]))]) (w1 := []) hP hD [0] [1] rfl rfl (by decide) (by decide) hk19 hFc hP1 hD1
  generalize H1 = H at hP hS ⊢
  have hP : va_P (dC, dI) cl_all [(ht, .inr (1, [.ref b1, .int 0]))] H := hP
  have hD : va_D A [(ht, .inr (1, [.ref b1, .int 0]))] := hD
  refine zz_i (v := 0) hw9 ?_
  refine lv_if_ne (tgt := 21) hx hb d_CL_script_16 (by decide) (fun h => absurd (by decide) h) (fun _ => ?_)
  refine lv_iconst (v := -1) hx hb d_CL_script_19 (by decide) ?_
  exact W.iret (v := (-1)) hx hb hr (fun t9 ht9 hW9 => ⟨⟨(-1), (), rfl, rfl, trivial⟩, hS.F ht9⟩) hS.2.2 d_CL_script_20
set_option maxHeartbeats 4000000 in
set_option maxRecDepth 100000 in
theorem c_CL_send (l : Launch) (dC : Nat → ClassId) (dI : Nat → Nat → Nat) (z : zT) (sz : Nat) (h0 ht ho hs hj hc hw hy hq : Nat)  : Met l y_CL_send w_CL_send ({ frames := 0, cells := 0, slots := 0, locals := 0 }) (va_Pc [.ref h0] (fun U => U.heap.size = sz ∧ va_P (dC, dI) cl_all [(h0, .inr (0, [.ref ht, .ref ho, .int 0, .int 0, .ref hs, .ref hj, .ref hc, .ref hw, .ref hy, .ref hq]))] U.heap ∧ va_K (dC, dI) cl_all [] U ∧ va_D (fun _ => True) [(h0, .inr (0, [.ref ht, .ref ho, .int 0, .int 0, .ref hs, .ref hj, .ref hc, .ref hw, .ref hy, .ref hq]))] ∧ zz z (va_A [(h0, .inr (0, [.ref ht, .ref ho, .int 0, .int 0, .ref hs, .ref hj, .ref hc, .ref hw, .ref hy, .ref hq]))] sz) U U.heap)) (va_Qi (fun (r : Int32) (_ : Unit) => r = (-1)) (fun _ t => True) (va_A [(h0, .inr (0, [.ref ht, .ref ho, .int 0, .int 0, .ref hs, .ref hj, .ref hc, .ref hw, .ref hy, .ref hq]))] sz)) 0 0 (va_A [(h0, .inr (0, [.ref ht, .ref ho, .int 0, .int 0, .ref hs, .ref hj, .ref hc, .ref hw, .ref hy, .ref hq]))] sz) := by
  refine Met.ofW (cc := b_CL_send) (maxL := 2) (ret := (some (.int))) (by decide) rfl ?_
  intro p e s m args below meth c s₁ B hml hv
  obtain ⟨rfl, hsz, hP, hK, hD0, hZ⟩ := hv
  have hx := B.exec
  have hb := B.bytes
  have hr := B.returns
  have hT : ∀ w ∈ lw_all, w.before _ s = true := fun w h => atoms_spec (ws := w_CL_send) B.pre w (List.mem_cons_of_mem _ h)
  have hown : s.vm.findClass R_CL = some m.cls := findClass_of_methodNamed B.named
  have hlocks := B.notSynchronized
  subst hsz
  have hD := hD0.self (sz := s.heap.size)
  generalize hAe : va_A [(h0, .inr (0, [.ref ht, .ref ho, .int 0, .int 0, .ref hs, .ref hj, .ref hc, .ref hw, .ref hy, .ref hq]))] s.heap.size = A at hD hZ ⊢
  have hA : ∀ q : Nat, s.heap.size ≤ q → A q := fun q h => by rw [← hAe]; exact Or.inr h
  have hS : va_S A s.heap s.heap [] := va_S.rf
  have hl := lv_entry ([.ref h0]) (n := 2) (Nat.le_of_ble_eq_true rfl)
  rw [lg_entry_eq]
  generalize (lg_sl ([.ref h0]) ++ List.replicate (2 - (lg_sl ([.ref h0])).length) Slot.unset).toArray = ls at hl ⊢
  have hl : lv_has ls 2 [(0, .ref h0)] := hl
  refine lv_aload_n hx hb d_CL_send_0 rfl (lv_at hl 0 rfl) ?_
  refine va_get (D := (dC, dI)) (ci := 0) (v := .int 0) (C := R_CL) (T := F_CL) (N := 10) hx hb hT i_CL hown hK hP 0 rfl rfl 2 (by decide) (hT _ k_157) (fun _ h9 => h9) rfl d_CL_send_1 ?_
  refine lv_if_ne (tgt := 9) hx hb d_CL_send_4 (by decide) (fun h => absurd (by decide) h) (fun _ => ?_)
  refine lv_iconst (v := -1) hx hb d_CL_send_7 (by decide) ?_
  exact W.iret (v := (-1)) hx hb hr (fun t9 ht9 hW9 => ⟨⟨(-1), (), rfl, rfl, trivial⟩, hS.F ht9⟩) hS.2.2 d_CL_send_8
set_option maxHeartbeats 4000000 in
set_option maxRecDepth 100000 in
theorem c_CL_back (l : Launch) (dC : Nat → ClassId) (dI : Nat → Nat → Nat) (z : zT) (sz : Nat) (h0 ht ho hs hj hc hw hy hq b1 : Nat) (e1 : ClassId) (b2 : Nat) (e2 : ClassId)  : Met l y_CL_back w_CL_back ({ frames := 2, cells := 0, slots := 0, locals := 41 }) (va_Pc [.ref h0] (fun U => U.heap.size = sz ∧ va_P (dC, dI) cl_all [(h0, .inr (0, [.ref ht, .ref ho, .int 0, .int 0, .ref hs, .ref hj, .ref hc, .ref hw, .ref hy, .ref hq])), (ht, .inr (1, [.ref b1, .int 0])), (b1, .inl (e1, 4096, .inl (fun _ => 0))), (ho, .inr (1, [.ref b2, .int 0])), (b2, .inl (e2, 4096, .inl (fun _ => 0)))] U.heap ∧ va_K (dC, dI) cl_all [(e1, .byte), (e2, .byte)] U ∧ va_D (fun _ => True) [(h0, .inr (0, [.ref ht, .ref ho, .int 0, .int 0, .ref hs, .ref hj, .ref hc, .ref hw, .ref hy, .ref hq])), (ht, .inr (1, [.ref b1, .int 0])), (b1, .inl (e1, 4096, .inl (fun _ => 0))), (ho, .inr (1, [.ref b2, .int 0])), (b2, .inl (e2, 4096, .inl (fun _ => 0)))] ∧ zz z (va_A [(h0, .inr (0, [.ref ht, .ref ho, .int 0, .int 0, .ref hs, .ref hj, .ref hc, .ref hw, .ref hy, .ref hq])), (ht, .inr (1, [.ref b1, .int 0])), (b1, .inl (e1, 4096, .inl (fun _ => 0))), (ho, .inr (1, [.ref b2, .int 0])), (b2, .inl (e2, 4096, .inl (fun _ => 0)))] sz) U U.heap)) (va_Qi (fun (r : Int32) (_ : Unit) => r = 0) (fun _ t => True) (va_A [(h0, .inr (0, [.ref ht, .ref ho, .int 0, .int 0, .ref hs, .ref hj, .ref hc, .ref hw, .ref hy, .ref hq])), (ht, .inr (1, [.ref b1, .int 0])), (b1, .inl (e1, 4096, .inl (fun _ => 0))), (ho, .inr (1, [.ref b2, .int 0])), (b2, .inl (e2, 4096, .inl (fun _ => 0)))] sz)) 0 0 (va_A [(h0, .inr (0, [.ref ht, .ref ho, .int 0, .int 0, .ref hs, .ref hj, .ref hc, .ref hw, .ref hy, .ref hq])), (ht, .inr (1, [.ref b1, .int 0])), (b1, .inl (e1, 4096, .inl (fun _ => 0))), (ho, .inr (1, [.ref b2, .int 0])), (b2, .inl (e2, 4096, .inl (fun _ => 0)))] sz) := by
  refine Met.ofW (cc := b_CL_back) (maxL := 1) (ret := (some (.int))) (by decide) rfl ?_
  intro p e s m args below meth c s₁ B hml hv
  obtain ⟨rfl, hsz, hP, hK, hD0, hZ⟩ := hv
  have hx := B.exec
  have hb := B.bytes
  have hr := B.returns
  have hT : ∀ w ∈ lw_all, w.before _ s = true := fun w h => atoms_spec (ws := w_CL_back) B.pre w (List.mem_cons_of_mem _ h)
  have hown : s.vm.findClass R_CL = some m.cls := findClass_of_methodNamed B.named
  have hlocks := B.notSynchronized
  subst hsz
  have hD := hD0.self (sz := s.heap.size)
  generalize hAe : va_A [(h0, .inr (0, [.ref ht, .ref ho, .int 0, .int 0, .ref hs, .ref hj, .ref hc, .ref hw, .ref hy, .ref hq])), (ht, .inr (1, [.ref b1, .int 0])), (b1, .inl (e1, 4096, .inl (fun _ => 0))), (ho, .inr (1, [.ref b2, .int 0])), (b2, .inl (e2, 4096, .inl (fun _ => 0)))] s.heap.size = A at hD hZ ⊢
  have hA : ∀ q : Nat, s.heap.size ≤ q → A q := fun q h => by rw [← hAe]; exact Or.inr h
  have hS : va_S A s.heap s.heap [] := va_S.rf
  have hl := lv_entry ([.ref h0]) (n := 1) (Nat.le_of_ble_eq_true rfl)
  rw [lg_entry_eq]
  generalize (lg_sl ([.ref h0]) ++ List.replicate (1 - (lg_sl ([.ref h0])).length) Slot.unset).toArray = ls at hl ⊢
  have hl : lv_has ls 1 [(0, .ref h0)] := hl
  refine lv_aload_n hx hb d_CL_back_0 rfl (lv_at hl 0 rfl) ?_
  refine va_get (D := (dC, dI)) (ci := 0) (v := .ref ht) (C := R_CL) (T := F_CL) (N := 10) hx hb hT i_CL hown hK hP 0 rfl rfl 0 (by decide) (hT _ k_167) (fun _ h9 => h9) rfl d_CL_back_1 ?_
  refine lv_iconst (v := 0) hx hb d_CL_back_4 (by decide) ?_
  refine va_put (D := (dC, dI)) (ci := 1) (v := .int 0) (ty := .int) (C := R_Row) (T := F_Row) (N := 2) hx hb hT i_Row t_Row t_Row_ok n_Row hown hK hP hD hS 1 rfl rfl 1 (by decide) (hT _ k_195) (fun _ h9 => h9) rfl (by decide +kernel) rfl rfl (Nat.le_of_ble_eq_true rfl) d_CL_back_5 (fun H locs hP hD hS => ?_)
  have hP : va_P (dC, dI) cl_all [(h0, .inr (0, [.ref ht, .ref ho, .int 0, .int 0, .ref hs, .ref hj, .ref hc, .ref hw, .ref hy, .ref hq])), (ht, .inr (1, [.ref b1, .int 0])), (b1, .inl (e1, 4096, .inl (fun _ => 0))), (ho, .inr (1, [.ref b2, .int 0])), (b2, .inl (e2, 4096, .inl (fun _ => 0)))] H := hP
  have hD : va_D A [(h0, .inr (0, [.ref ht, .ref ho, .int 0, .int 0, .ref hs, .ref hj, .ref hc, .ref hw, .ref hy, .ref hq])), (ht, .inr (1, [.ref b1, .int 0])), (b1, .inl (e1, 4096, .inl (fun _ => 0))), (ho, .inr (1, [.ref b2, .int 0])), (b2, .inl (e2, 4096, .inl (fun _ => 0)))] := hD
  refine lv_aload_n hx hb d_CL_back_8 rfl (lv_at hl 0 rfl) ?_
  refine va_get (D := (dC, dI)) (ci := 0) (v := .ref ht) (C := R_CL) (T := F_CL) (N := 10) hx hb hT i_CL hown hK hP 0 rfl rfl 0 (by decide) (hT _ k_167) (fun _ h9 => h9) rfl d_CL_back_9 ?_
  refine lv_aload_n hx hb d_CL_back_12 rfl (lv_at hl 0 rfl) ?_
  refine va_get (D := (dC, dI)) (ci := 0) (v := .ref ho) (C := R_CL) (T := F_CL) (N := 10) hx hb hT i_CL hown hK hP 0 rfl rfl 1 (by decide) (hT _ k_168) (fun _ h9 => h9) rfl d_CL_back_13 ?_
  refine va_get (D := (dC, dI)) (ci := 1) (v := .ref b2) (C := R_Row) (T := F_Row) (N := 2) hx hb hT i_Row hown hK hP 3 rfl rfl 0 (by decide) (hT _ k_197) (fun _ h9 => h9) rfl d_CL_back_16 ?_
  refine lv_iconst (v := 0) hx hb d_CL_back_19 (by decide) ?_
  refine lv_aload_n hx hb d_CL_back_20 rfl (lv_at hl 0 rfl) ?_
  refine va_get (D := (dC, dI)) (ci := 0) (v := .ref ho) (C := R_CL) (T := F_CL) (N := 10) hx hb hT i_CL hown hK hP 0 rfl rfl 1 (by decide) (hT _ k_168) (fun _ h9 => h9) rfl d_CL_back_21 ?_
  refine va_get (D := (dC, dI)) (ci := 1) (v := .int 0) (C := R_Row) (T := F_Row) (N := 2) hx hb hT i_Row hown hK hP 3 rfl rfl 1 (by decide) (hT _ k_195) (fun _ h9 => h9) rfl d_CL_back_24 ?_
  have hPc := hP.sub (ws' := [(ht, .inr (1, [.ref b1, .int 0])), (b1, .inl (e1, 4096, .inl (fun _ => 0))), (b2, .inl (e2, 4096, .inl (fun _ => 0)))]) [1, 2, 4] rfl
  have hDc := hD.sub (ws' := [(ht, .inr (1, [.ref b1, .int 0])), (b1, .inl (e1, 4096, .inl (fun _ => 0))), (b2, .inl (e2, 4096, .inl (fun _ => 0)))]) [1, 2, 4] (by decide) rfl
  have hKc := hK.sub (tys' := [(e1, .byte), (e2, .byte)]) [0, 1] rfl
  have hFc := va_free (wc := [(ht, .inr (1, [.ref b1, .int 0])), (b1, .inl (e1, 4096, .inl (fun _ => 0))), (b2, .inl (e2, 4096, .inl (fun _ => 0)))]) hD hS hA [1, 2, 4] rfl
  refine va_callv (va_runV (C := R_Row) (As := [.ref b2, .int 0, .int 0]) (rest := []) ⟨hx, hb, hml, hown, hT⟩ (c_Row_addBytes l dC dI z H.size ht b1 b2 e1 e2 4096 (fun _ => 0) (fun _ => 0) 0 0 0 sb_fit0 sb_fit0 (by omega) (by omega) (by omega)) ⟨callB_of 3 hT g_Row_addBytes rfl rfl rfl (hT _ k_55) (hT _ k_216) (by decide +kernel) ⟨Nat.le_of_ble_eq_true rfl, Nat.le_of_ble_eq_true rfl⟩, (hT _ k_217), (hT _ k_218)⟩ (zz_preV hPc hKc hDc hZ hS hFc hK hP (ci := 1) (q0 := 1) (q := (R_Row, F_Row, 2)) rfl rfl) rfl rfl hl.1 rfl (lv_room (Nat.le_of_ble_eq_true rfl)) d_CL_back_27 ⟨Nat.le_of_ble_eq_true rfl, Nat.le_of_ble_eq_true rfl⟩) hS (fun q _ h => hFc q h) hFc (fun u9 t9 H1 locs ht9 hvm9 hw9 hB9 hz19 hk19 hS => ?_)
  obtain ⟨f_2, hf_3, hP1, hK1, hD1⟩ := hB9
  rw [ht9] at hP1
  obtain ⟨hP, hD⟩ := va_join (wr := [(h0, .inr (0, [.ref ht, .ref ho, .int 0, .int 0, .ref hs, .ref hj, .ref hc, .ref hw, .ref hy, .ref hq])), (ho, .inr (1, [.ref b2, .int 0]))]) (w1 := [(ht, .inr (1, [.ref b1, .int 0])), (b1, .inl (e1, 4096, .inl f_2)), (b2, .inl (e2, 4096, .inl (fun _ => 0)))]) hP hD [1, 2, 4] [0, 3] rfl rfl (by decide) (by decide) hk19 hFc hP1 hD1
  generalize H1 = H at hP hS ⊢
  have hP : va_P (dC, dI) cl_all [(h0, .inr (0, [.ref ht, .ref ho, .int 0, .int 0, .ref hs, .ref hj, .ref hc, .ref hw, .ref hy, .ref hq])), (ho, .inr (1, [.ref b2, .int 0])), (ht, .inr (1, [.ref b1, .int 0])), (b1, .inl (e1, 4096, .inl f_2)), (b2, .inl (e2, 4096, .inl (fun _ => 0)))] H := hP
  have hD : va_D A [(h0, .inr (0, [.ref ht, .ref ho, .int 0, .int 0, .ref hs, .ref hj, .ref hc, .ref hw, .ref hy, .ref hq])), (ho, .inr (1, [.ref b2, .int 0])), (ht, .inr (1, [.ref b1, .int 0])), (b1, .inl (e1, 4096, .inl f_2)), (b2, .inl (e2, 4096, .inl (fun _ => 0)))] := hD
  refine lv_aload_n hx hb d_CL_back_30 rfl (lv_at hl 0 rfl) ?_
  refine va_get (D := (dC, dI)) (ci := 0) (v := .ref ht) (C := R_CL) (T := F_CL) (N := 10) hx hb hT i_CL hown hK hP 0 rfl rfl 0 (by decide) (hT _ k_167) (fun _ h9 => h9) rfl d_CL_back_31 ?_
  refine va_get (D := (dC, dI)) (ci := 1) (v := .int 0) (C := R_Row) (T := F_Row) (N := 2) hx hb hT i_Row hown hK hP 2 rfl rfl 1 (by decide) (hT _ k_195) (fun _ h9 => h9) rfl d_CL_back_34 ?_
  exact W.iret (v := 0) hx hb hr (fun t9 ht9 hW9 => ⟨⟨0, (), rfl, rfl, trivial⟩, hS.F ht9⟩) hS.2.2 d_CL_back_37
set_option maxHeartbeats 4000000 in
set_option maxRecDepth 100000 in
theorem c_CL_tip (l : Launch) (dC : Nat → ClassId) (dI : Nat → Nat → Nat) (z : zT) (sz : Nat) (h0 ht ho hs hj hc hw hy hq g1 g3 g4 g5 g6 g8 g9 g10 g7 g11 g12 : Nat) (e7 : ClassId) (x1 : Int32)  : Met l y_CL_tip w_CL_tip ({ frames := 1, cells := 0, slots := 0, locals := 21 }) (va_Pc [.ref h0, .int x1] (fun U => U.heap.size = sz ∧ va_P (dC, dI) cl_all [(h0, .inr (0, [.ref ht, .ref ho, .int 0, .int 0, .ref hs, .ref hj, .ref hc, .ref hw, .ref hy, .ref hq])), (hc, .inr (5, [.ref hs, .ref hj, .ref g1, .ref g3, .int 1, .int 0, .ref g4, .ref g6, .ref g5, .ref g8, .int 0, .ref g9, .int 0, .ref g10, .int 0, .int 1, .null])), (g6, .inr (6, [.null, .int 0, .ref g7, .int 0, .int 32768, .int 0, .ref g11, .int 0, .null, .int 0, .int 0, .long 0, .int 1, .int 0, .int 1, .int 0, .ref g12])), (g7, .inl (e7, 32, .inl (fun _ => 0)))] U.heap ∧ va_K (dC, dI) cl_all [(e7, .byte)] U ∧ va_D (fun _ => True) [(h0, .inr (0, [.ref ht, .ref ho, .int 0, .int 0, .ref hs, .ref hj, .ref hc, .ref hw, .ref hy, .ref hq])), (hc, .inr (5, [.ref hs, .ref hj, .ref g1, .ref g3, .int 1, .int 0, .ref g4, .ref g6, .ref g5, .ref g8, .int 0, .ref g9, .int 0, .ref g10, .int 0, .int 1, .null])), (g6, .inr (6, [.null, .int 0, .ref g7, .int 0, .int 32768, .int 0, .ref g11, .int 0, .null, .int 0, .int 0, .long 0, .int 1, .int 0, .int 1, .int 0, .ref g12])), (g7, .inl (e7, 32, .inl (fun _ => 0)))] ∧ zz z (va_A [(h0, .inr (0, [.ref ht, .ref ho, .int 0, .int 0, .ref hs, .ref hj, .ref hc, .ref hw, .ref hy, .ref hq])), (hc, .inr (5, [.ref hs, .ref hj, .ref g1, .ref g3, .int 1, .int 0, .ref g4, .ref g6, .ref g5, .ref g8, .int 0, .ref g9, .int 0, .ref g10, .int 0, .int 1, .null])), (g6, .inr (6, [.null, .int 0, .ref g7, .int 0, .int 32768, .int 0, .ref g11, .int 0, .null, .int 0, .int 0, .long 0, .int 1, .int 0, .int 1, .int 0, .ref g12])), (g7, .inl (e7, 32, .inl (fun _ => 0)))] sz) U U.heap)) (va_Ql (fun (r : Int64) (_ : Unit) => r = an_tip x1) (fun _ t => True) (va_A [(h0, .inr (0, [.ref ht, .ref ho, .int 0, .int 0, .ref hs, .ref hj, .ref hc, .ref hw, .ref hy, .ref hq])), (hc, .inr (5, [.ref hs, .ref hj, .ref g1, .ref g3, .int 1, .int 0, .ref g4, .ref g6, .ref g5, .ref g8, .int 0, .ref g9, .int 0, .ref g10, .int 0, .int 1, .null])), (g6, .inr (6, [.null, .int 0, .ref g7, .int 0, .int 32768, .int 0, .ref g11, .int 0, .null, .int 0, .int 0, .long 0, .int 1, .int 0, .int 1, .int 0, .ref g12])), (g7, .inl (e7, 32, .inl (fun _ => 0)))] sz)) 0 0 (va_A [(h0, .inr (0, [.ref ht, .ref ho, .int 0, .int 0, .ref hs, .ref hj, .ref hc, .ref hw, .ref hy, .ref hq])), (hc, .inr (5, [.ref hs, .ref hj, .ref g1, .ref g3, .int 1, .int 0, .ref g4, .ref g6, .ref g5, .ref g8, .int 0, .ref g9, .int 0, .ref g10, .int 0, .int 1, .null])), (g6, .inr (6, [.null, .int 0, .ref g7, .int 0, .int 32768, .int 0, .ref g11, .int 0, .null, .int 0, .int 0, .long 0, .int 1, .int 0, .int 1, .int 0, .ref g12])), (g7, .inl (e7, 32, .inl (fun _ => 0)))] sz) := by
  refine Met.ofW (cc := b_CL_tip) (maxL := 2) (ret := (some (.long))) (by decide) rfl ?_
  intro p e s m args below meth c s₁ B hml hv
  obtain ⟨rfl, hsz, hP, hK, hD0, hZ⟩ := hv
  have hx := B.exec
  have hb := B.bytes
  have hr := B.returns
  have hT : ∀ w ∈ lw_all, w.before _ s = true := fun w h => atoms_spec (ws := w_CL_tip) B.pre w (List.mem_cons_of_mem _ h)
  have hown : s.vm.findClass R_CL = some m.cls := findClass_of_methodNamed B.named
  have hlocks := B.notSynchronized
  subst hsz
  have hD := hD0.self (sz := s.heap.size)
  generalize hAe : va_A [(h0, .inr (0, [.ref ht, .ref ho, .int 0, .int 0, .ref hs, .ref hj, .ref hc, .ref hw, .ref hy, .ref hq])), (hc, .inr (5, [.ref hs, .ref hj, .ref g1, .ref g3, .int 1, .int 0, .ref g4, .ref g6, .ref g5, .ref g8, .int 0, .ref g9, .int 0, .ref g10, .int 0, .int 1, .null])), (g6, .inr (6, [.null, .int 0, .ref g7, .int 0, .int 32768, .int 0, .ref g11, .int 0, .null, .int 0, .int 0, .long 0, .int 1, .int 0, .int 1, .int 0, .ref g12])), (g7, .inl (e7, 32, .inl (fun _ => 0)))] s.heap.size = A at hD hZ ⊢
  have hA : ∀ q : Nat, s.heap.size ≤ q → A q := fun q h => by rw [← hAe]; exact Or.inr h
  have hS : va_S A s.heap s.heap [] := va_S.rf
  have hl := lv_entry ([.ref h0, .int x1]) (n := 2) (Nat.le_of_ble_eq_true rfl)
  rw [lg_entry_eq]
  generalize (lg_sl ([.ref h0, .int x1]) ++ List.replicate (2 - (lg_sl ([.ref h0, .int x1])).length) Slot.unset).toArray = ls at hl ⊢
  have hl : lv_has ls 2 [(0, .ref h0), (1, .int x1)] := hl
  refine lv_iload_n hx hb d_CL_tip_0 rfl (lv_at hl 1 rfl) ?_
  by_cases c_1 : x1 = 0
  · subst c_1
    refine lv_tableIn (tgt := 32) hx hb d_CL_tip_1 (by decide) (by decide) rfl (by decide) ?_
    refine lv_aload_n hx hb d_CL_tip_32 rfl (lv_at hl 0 rfl) ?_
    refine va_get (D := (dC, dI)) (ci := 0) (v := .ref hc) (C := R_CL) (T := F_CL) (N := 10) hx hb hT i_CL hown hK hP 0 rfl rfl 6 (by decide) (hT _ k_184) (fun _ h9 => h9) rfl d_CL_tip_33 ?_
    refine va_get (D := (dC, dI)) (ci := 5) (v := .ref g6) (C := R_Chain) (T := F_Chain) (N := 17) hx hb hT i_Chain hown hK hP 1 rfl rfl 7 (by decide) (hT _ k_219) (fun _ h9 => h9) rfl d_CL_tip_36 ?_
    refine va_get (D := (dC, dI)) (ci := 6) (v := .int 0) (C := R_Block) (T := F_Block) (N := 17) hx hb hT i_Block hown hK hP 2 rfl rfl 10 (by decide) (hT _ k_220) (fun _ h9 => h9) rfl d_CL_tip_39 ?_
    refine lv_i2l (v := 0) hx hb d_CL_tip_42 (by decide) ?_
    exact W.lret (v := 0) hx hb hr (fun t9 ht9 hW9 => ⟨⟨0, (), rfl, (by simp [an_tip]), trivial⟩, hS.F ht9⟩) hS.2.2 d_CL_tip_43
  · by_cases c_2 : x1 = 1
    · subst c_2
      refine lv_tableIn (tgt := 44) hx hb d_CL_tip_1 (by decide) (by decide) rfl (by decide) ?_
      refine lv_aload_n hx hb d_CL_tip_44 rfl (lv_at hl 0 rfl) ?_
      refine va_get (D := (dC, dI)) (ci := 0) (v := .ref hc) (C := R_CL) (T := F_CL) (N := 10) hx hb hT i_CL hown hK hP 0 rfl rfl 6 (by decide) (hT _ k_184) (fun _ h9 => h9) rfl d_CL_tip_45 ?_
      refine va_get (D := (dC, dI)) (ci := 5) (v := .ref g6) (C := R_Chain) (T := F_Chain) (N := 17) hx hb hT i_Chain hown hK hP 1 rfl rfl 7 (by decide) (hT _ k_219) (fun _ h9 => h9) rfl d_CL_tip_48 ?_
      refine va_get (D := (dC, dI)) (ci := 6) (v := .int 0) (C := R_Block) (T := F_Block) (N := 17) hx hb hT i_Block hown hK hP 2 rfl rfl 9 (by decide) (hT _ k_221) (fun _ h9 => h9) rfl d_CL_tip_51 ?_
      refine lv_i2l (v := 0) hx hb d_CL_tip_54 (by decide) ?_
      exact W.lret (v := 0) hx hb hr (fun t9 ht9 hW9 => ⟨⟨0, (), rfl, (by simp [an_tip]), trivial⟩, hS.F ht9⟩) hS.2.2 d_CL_tip_55
    · by_cases c_3 : x1 = 2
      · subst c_3
        refine lv_tableIn (tgt := 56) hx hb d_CL_tip_1 (by decide) (by decide) rfl (by decide) ?_
        refine lv_aload_n hx hb d_CL_tip_56 rfl (lv_at hl 0 rfl) ?_
        refine va_get (D := (dC, dI)) (ci := 0) (v := .ref hc) (C := R_CL) (T := F_CL) (N := 10) hx hb hT i_CL hown hK hP 0 rfl rfl 6 (by decide) (hT _ k_184) (fun _ h9 => h9) rfl d_CL_tip_57 ?_
        refine va_get (D := (dC, dI)) (ci := 5) (v := .ref g6) (C := R_Chain) (T := F_Chain) (N := 17) hx hb hT i_Chain hown hK hP 1 rfl rfl 7 (by decide) (hT _ k_219) (fun _ h9 => h9) rfl d_CL_tip_60 ?_
        refine va_get (D := (dC, dI)) (ci := 6) (v := .long 0) (C := R_Block) (T := F_Block) (N := 17) hx hb hT i_Block hown hK hP 2 rfl rfl 11 (by decide) (hT _ k_222) (fun _ h9 => h9) rfl d_CL_tip_63 ?_
        exact W.lret (v := 0) hx hb hr (fun t9 ht9 hW9 => ⟨⟨0, (), rfl, (by simp [an_tip]), trivial⟩, hS.F ht9⟩) hS.2.2 d_CL_tip_66
      · by_cases c_4 : x1 = 3
        · subst c_4
          refine lv_tableIn (tgt := 67) hx hb d_CL_tip_1 (by decide) (by decide) rfl (by decide) ?_
          refine lv_aload_n hx hb d_CL_tip_67 rfl (lv_at hl 0 rfl) ?_
          refine va_get (D := (dC, dI)) (ci := 0) (v := .ref hc) (C := R_CL) (T := F_CL) (N := 10) hx hb hT i_CL hown hK hP 0 rfl rfl 6 (by decide) (hT _ k_184) (fun _ h9 => h9) rfl d_CL_tip_68 ?_
          refine va_get (D := (dC, dI)) (ci := 5) (v := .ref g6) (C := R_Chain) (T := F_Chain) (N := 17) hx hb hT i_Chain hown hK hP 1 rfl rfl 7 (by decide) (hT _ k_219) (fun _ h9 => h9) rfl d_CL_tip_71 ?_
          refine va_get (D := (dC, dI)) (ci := 6) (v := .ref g7) (C := R_Block) (T := F_Block) (N := 17) hx hb hT i_Block hown hK hP 2 rfl rfl 2 (by decide) (hT _ k_223) (fun _ h9 => h9) rfl d_CL_tip_74 ?_
          refine lv_iconst (v := 0) hx hb d_CL_tip_77 (by decide) ?_
          have hPc := hP.sub (ws' := [(g7, .inl (e7, 32, .inl (fun _ => 0)))]) [3] rfl
          have hDc := hD.sub (ws' := [(g7, .inl (e7, 32, .inl (fun _ => 0)))]) [3] (by decide) rfl
          have hKc := hK.sub (tys' := [(e7, .byte)]) [0] rfl
          have hFc := va_free (wc := [(g7, .inl (e7, 32, .inl (fun _ => 0)))]) hD hS hA [3] rfl
          refine va_calli (va_runS (As := [.ref g7, .int 0]) (rest := []) ⟨hx, hb, hml, hown, hT⟩ (c_CL_numberAt0 l dC dI z s.heap.size g7 e7) ⟨callB_of 2 hT g_CL_numberAt rfl rfl rfl (hT _ k_100) (hT _ k_224) (by decide +kernel) ⟨Nat.le_of_ble_eq_true rfl, Nat.le_of_ble_eq_true rfl⟩, (hT _ k_225)⟩ (zz_pre hPc hKc hDc hZ hS hFc) rfl rfl hl.1 rfl (lv_room (Nat.le_of_ble_eq_true rfl)) d_CL_tip_78 ⟨Nat.le_of_ble_eq_true rfl, Nat.le_of_ble_eq_true rfl⟩) hS (fun q _ h => hFc q h) hFc (fun r_5 u9 t9 H1 locs ht9 hvm9 hw9 hB9 hz19 hk19 hS => ?_)
          obtain ⟨hP1, hK1, hD1⟩ := hB9
          rw [ht9] at hP1
          obtain ⟨hP, hD⟩ := va_join (wr := [(h0, .inr (0, [.ref ht, .ref ho, .int 0, .int 0, .ref hs, .ref hj, .ref hc, .ref hw, .ref hy, .ref hq])), (hc, .inr (5, [.ref hs, .ref hj, .ref g1, .ref g3, .int 1, .int 0, .ref g4, .ref g6, .ref g5, .ref g8, .int 0, .ref g9, .int 0, .ref g10, .int 0, .int 1, .null])), (g6, .inr (6, [.null, .int 0, .ref g7, .int 0, .int 32768, .int 0, .ref g11, .int 0, .null, .int 0, .int 0, .long 0, .int 1, .int 0, .int 1, .int 0, .ref g12]))]) (w1 := [(g7, .inl (e7, 32, .inl (fun _ => 0)))]) hP hD [3] [0, 1, 2] rfl rfl (by decide) (by decide) hk19 hFc hP1 hD1
          generalize H1 = H at hP hS ⊢
          have hP : va_P (dC, dI) cl_all [(h0, .inr (0, [.ref ht, .ref ho, .int 0, .int 0, .ref hs, .ref hj, .ref hc, .ref hw, .ref hy, .ref hq])), (hc, .inr (5, [.ref hs, .ref hj, .ref g1, .ref g3, .int 1, .int 0, .ref g4, .ref g6, .ref g5, .ref g8, .int 0, .ref g9, .int 0, .ref g10, .int 0, .int 1, .null])), (g6, .inr (6, [.null, .int 0, .ref g7, .int 0, .int 32768, .int 0, .ref g11, .int 0, .null, .int 0, .int 0, .long 0, .int 1, .int 0, .int 1, .int 0, .ref g12])), (g7, .inl (e7, 32, .inl (fun _ => 0)))] H := hP
          have hD : va_D A [(h0, .inr (0, [.ref ht, .ref ho, .int 0, .int 0, .ref hs, .ref hj, .ref hc, .ref hw, .ref hy, .ref hq])), (hc, .inr (5, [.ref hs, .ref hj, .ref g1, .ref g3, .int 1, .int 0, .ref g4, .ref g6, .ref g5, .ref g8, .int 0, .ref g9, .int 0, .ref g10, .int 0, .int 1, .null])), (g6, .inr (6, [.null, .int 0, .ref g7, .int 0, .int 32768, .int 0, .ref g11, .int 0, .null, .int 0, .int 0, .long 0, .int 1, .int 0, .int 1, .int 0, .ref g12])), (g7, .inl (e7, 32, .inl (fun _ => 0)))] := hD
          refine zz_i (v := 0) hw9 ?_
          refine lv_i2l (v := 0) hx hb d_CL_tip_81 (by decide) ?_
          refine lv_ldc2 hx hb hown (hT _ k_226) d_CL_tip_82 ?_
          refine lv_land hx hb d_CL_tip_85 ?_
          refine zz_l (v := 0) (by decide) ?_
          exact W.lret (v := 0) hx hb hr (fun t9 ht9 hW9 => ⟨⟨0, (), rfl, (by simp [an_tip]), trivial⟩, hS.F ht9⟩) hS.2.2 d_CL_tip_86
        · have hsw : (x1 : Int32).toInt < 0 ∨ 3 < (x1 : Int32).toInt := zz_out4 c_1 c_2 c_3 c_4
          refine lv_tableOut (tgt := 87) hx hb d_CL_tip_1 hsw (by decide) ?_
          refine lv_ldc2 hx hb hown (hT _ k_227) d_CL_tip_87 ?_
          exact W.lret (v := (-1)) hx hb hr (fun t9 ht9 hW9 => ⟨⟨(-1), (), rfl, (by simp [an_tip, c_1, c_2, c_3, c_4]), trivial⟩, hS.F ht9⟩) hS.2.2 d_CL_tip_90
set_option maxHeartbeats 4000000 in
set_option maxRecDepth 100000 in
theorem c_CL_stored (l : Launch) (dC : Nat → ClassId) (dI : Nat → Nat → Nat) (z : zT) (sz : Nat) (h0 ht ho hs hj hc hw hy hq g1 g3 g4 g5 g6 g8 g9 g10 g7 g11 g12 : Nat) (e5 : ClassId) (fb : Nat → Option Nat) (x1 x2 : Int32) (hb0 : fb 0 = some g6) : Met l y_CL_stored w_CL_stored ({ frames := 1, cells := 0, slots := 0, locals := 21 }) (va_Pc [.ref h0, .int x1, .int x2] (fun U => U.heap.size = sz ∧ va_P (dC, dI) cl_all [(h0, .inr (0, [.ref ht, .ref ho, .int 0, .int 0, .ref hs, .ref hj, .ref hc, .ref hw, .ref hy, .ref hq])), (hc, .inr (5, [.ref hs, .ref hj, .ref g1, .ref g3, .int 1, .int 0, .ref g4, .ref g6, .ref g5, .ref g8, .int 0, .ref g9, .int 0, .ref g10, .int 0, .int 1, .null])), (g3, .inl (e5, 256, .inr (.inr (.inr (.inr fb))))), (g6, .inr (6, [.null, .int 0, .ref g7, .int 0, .int 32768, .int 0, .ref g11, .int 0, .null, .int 0, .int 0, .long 0, .int 1, .int 0, .int 1, .int 0, .ref g12]))] U.heap ∧ va_K (dC, dI) cl_all [(e5, .object "ChainLedger$Block")] U ∧ va_D (fun _ => True) [(h0, .inr (0, [.ref ht, .ref ho, .int 0, .int 0, .ref hs, .ref hj, .ref hc, .ref hw, .ref hy, .ref hq])), (hc, .inr (5, [.ref hs, .ref hj, .ref g1, .ref g3, .int 1, .int 0, .ref g4, .ref g6, .ref g5, .ref g8, .int 0, .ref g9, .int 0, .ref g10, .int 0, .int 1, .null])), (g3, .inl (e5, 256, .inr (.inr (.inr (.inr fb))))), (g6, .inr (6, [.null, .int 0, .ref g7, .int 0, .int 32768, .int 0, .ref g11, .int 0, .null, .int 0, .int 0, .long 0, .int 1, .int 0, .int 1, .int 0, .ref g12]))] ∧ zz z (va_A [(h0, .inr (0, [.ref ht, .ref ho, .int 0, .int 0, .ref hs, .ref hj, .ref hc, .ref hw, .ref hy, .ref hq])), (hc, .inr (5, [.ref hs, .ref hj, .ref g1, .ref g3, .int 1, .int 0, .ref g4, .ref g6, .ref g5, .ref g8, .int 0, .ref g9, .int 0, .ref g10, .int 0, .int 1, .null])), (g3, .inl (e5, 256, .inr (.inr (.inr (.inr fb))))), (g6, .inr (6, [.null, .int 0, .ref g7, .int 0, .int 32768, .int 0, .ref g11, .int 0, .null, .int 0, .int 0, .long 0, .int 1, .int 0, .int 1, .int 0, .ref g12]))] sz) U U.heap)) (va_Qi (fun (r : Int32) (_ : Unit) => r = an_stored x1 x2) (fun _ t => True) (va_A [(h0, .inr (0, [.ref ht, .ref ho, .int 0, .int 0, .ref hs, .ref hj, .ref hc, .ref hw, .ref hy, .ref hq])), (hc, .inr (5, [.ref hs, .ref hj, .ref g1, .ref g3, .int 1, .int 0, .ref g4, .ref g6, .ref g5, .ref g8, .int 0, .ref g9, .int 0, .ref g10, .int 0, .int 1, .null])), (g3, .inl (e5, 256, .inr (.inr (.inr (.inr fb))))), (g6, .inr (6, [.null, .int 0, .ref g7, .int 0, .int 32768, .int 0, .ref g11, .int 0, .null, .int 0, .int 0, .long 0, .int 1, .int 0, .int 1, .int 0, .ref g12]))] sz)) 0 0 (va_A [(h0, .inr (0, [.ref ht, .ref ho, .int 0, .int 0, .ref hs, .ref hj, .ref hc, .ref hw, .ref hy, .ref hq])), (hc, .inr (5, [.ref hs, .ref hj, .ref g1, .ref g3, .int 1, .int 0, .ref g4, .ref g6, .ref g5, .ref g8, .int 0, .ref g9, .int 0, .ref g10, .int 0, .int 1, .null])), (g3, .inl (e5, 256, .inr (.inr (.inr (.inr fb))))), (g6, .inr (6, [.null, .int 0, .ref g7, .int 0, .int 32768, .int 0, .ref g11, .int 0, .null, .int 0, .int 0, .long 0, .int 1, .int 0, .int 1, .int 0, .ref g12]))] sz) := by
  refine Met.ofW (cc := b_CL_stored) (maxL := 4) (ret := (some (.int))) (by decide) rfl ?_
  intro p e s m args below meth c s₁ B hml hv
  obtain ⟨rfl, hsz, hP, hK, hD0, hZ⟩ := hv
  have hx := B.exec
  have hb := B.bytes
  have hr := B.returns
  have hT : ∀ w ∈ lw_all, w.before _ s = true := fun w h => atoms_spec (ws := w_CL_stored) B.pre w (List.mem_cons_of_mem _ h)
  have hown : s.vm.findClass R_CL = some m.cls := findClass_of_methodNamed B.named
  have hlocks := B.notSynchronized
  subst hsz
  have hD := hD0.self (sz := s.heap.size)
  generalize hAe : va_A [(h0, .inr (0, [.ref ht, .ref ho, .int 0, .int 0, .ref hs, .ref hj, .ref hc, .ref hw, .ref hy, .ref hq])), (hc, .inr (5, [.ref hs, .ref hj, .ref g1, .ref g3, .int 1, .int 0, .ref g4, .ref g6, .ref g5, .ref g8, .int 0, .ref g9, .int 0, .ref g10, .int 0, .int 1, .null])), (g3, .inl (e5, 256, .inr (.inr (.inr (.inr fb))))), (g6, .inr (6, [.null, .int 0, .ref g7, .int 0, .int 32768, .int 0, .ref g11, .int 0, .null, .int 0, .int 0, .long 0, .int 1, .int 0, .int 1, .int 0, .ref g12]))] s.heap.size = A at hD hZ ⊢
  have hA : ∀ q : Nat, s.heap.size ≤ q → A q := fun q h => by rw [← hAe]; exact Or.inr h
  have hS : va_S A s.heap s.heap [] := va_S.rf
  have hl := lv_entry ([.ref h0, .int x1, .int x2]) (n := 4) (Nat.le_of_ble_eq_true rfl)
  rw [lg_entry_eq]
  generalize (lg_sl ([.ref h0, .int x1, .int x2]) ++ List.replicate (4 - (lg_sl ([.ref h0, .int x1, .int x2])).length) Slot.unset).toArray = ls at hl ⊢
  have hl : lv_has ls 4 [(0, .ref h0), (1, .int x1), (2, .int x2)] := hl
  refine lv_iload_n hx hb d_CL_stored_0 rfl (lv_at hl 2 rfl) ?_
  refine lv_if_lt (tgt := 9) hx hb d_CL_stored_1 (by decide) (fun c_1 => ?_) (fun c_1 => ?_)
  · refine lv_iconst (v := -1) hx hb d_CL_stored_9 (by decide) ?_
    exact W.iret (v := (-1)) hx hb hr (fun t9 ht9 hW9 => ⟨⟨(-1), (), rfl, (by simp [an_stored, c_1]), trivial⟩, hS.F ht9⟩) hS.2.2 d_CL_stored_10
  · refine lv_iload_n hx hb d_CL_stored_4 rfl (lv_at hl 2 rfl) ?_
    refine lv_iconst (v := 5) hx hb d_CL_stored_5 (by decide) ?_
    refine lv_icmp_le (tgt := 11) hx hb d_CL_stored_6 (by decide) (fun c_2 => ?_) (fun c_2 => ?_)
    · refine lv_aload_n hx hb d_CL_stored_11 rfl (lv_at hl 0 rfl) ?_
      refine va_get (D := (dC, dI)) (ci := 0) (v := .ref hc) (C := R_CL) (T := F_CL) (N := 10) hx hb hT i_CL hown hK hP 0 rfl rfl 6 (by decide) (hT _ k_184) (fun _ h9 => h9) rfl d_CL_stored_12 ?_
      refine lv_iload_n hx hb d_CL_stored_15 rfl (lv_at hl 1 rfl) ?_
      by_cases hz : x1 = 0
      · subst hz
        have hPc := hP.sub (ws' := [(hc, .inr (5, [.ref hs, .ref hj, .ref g1, .ref g3, .int 1, .int 0, .ref g4, .ref g6, .ref g5, .ref g8, .int 0, .ref g9, .int 0, .ref g10, .int 0, .int 1, .null])), (g3, .inl (e5, 256, .inr (.inr (.inr (.inr fb)))))]) [1, 2] rfl
        have hDc := hD.sub (ws' := [(hc, .inr (5, [.ref hs, .ref hj, .ref g1, .ref g3, .int 1, .int 0, .ref g4, .ref g6, .ref g5, .ref g8, .int 0, .ref g9, .int 0, .ref g10, .int 0, .int 1, .null])), (g3, .inl (e5, 256, .inr (.inr (.inr (.inr fb)))))]) [1, 2] (by decide) rfl
        have hKc := hK.sub (tys' := [(e5, .object "ChainLedger$Block")]) [0] rfl
        have hFc := va_free (wc := [(hc, .inr (5, [.ref hs, .ref hj, .ref g1, .ref g3, .int 1, .int 0, .ref g4, .ref g6, .ref g5, .ref g8, .int 0, .ref g9, .int 0, .ref g10, .int 0, .int 1, .null])), (g3, .inl (e5, 256, .inr (.inr (.inr (.inr fb)))))]) hD hS hA [1, 2] rfl
        refine va_callq (va_runV (C := R_Chain) (As := [.int 0]) (rest := []) ⟨hx, hb, hml, hown, hT⟩ (c_Chain_numbered0 l dC dI z s.heap.size g1 g3 g4 g5 g6 g8 g9 g10 hs hj hc e5 fb hb0) ⟨callB_of 1 hT g_Chain_numbered rfl rfl rfl (hT _ k_132) (hT _ k_228) (by decide +kernel) ⟨Nat.le_of_ble_eq_true rfl, Nat.le_of_ble_eq_true rfl⟩, (hT _ k_229), (hT _ k_230)⟩ (zz_preV hPc hKc hDc hZ hS hFc hK hP (ci := 5) (q0 := 1) (q := (R_Chain, F_Chain, 17)) rfl rfl) rfl rfl hl.1 rfl (lv_room (Nat.le_of_ble_eq_true rfl)) d_CL_stored_16 ⟨Nat.le_of_ble_eq_true rfl, Nat.le_of_ble_eq_true rfl⟩) hS (fun q _ h => hFc q h) hFc (fun r_3 u9 t9 H1 locs ht9 hvm9 hw9 hB9 hz19 hk19 hS => ?_)
        obtain ⟨hP1, hK1, hD1⟩ := hB9
        rw [ht9] at hP1
        obtain ⟨hP, hD⟩ := va_join (wr := [(h0, .inr (0, [.ref ht, .ref ho, .int 0, .int 0, .ref hs, .ref hj, .ref hc, .ref hw, .ref hy, .ref hq])), (g6, .inr (6, [.null, .int 0, .ref g7, .int 0, .int 32768, .int 0, .ref g11, .int 0, .null, .int 0, .int 0, .long 0, .int 1, .int 0, .int 1, .int 0, .ref g12]))]) (w1 := [(hc, .inr (5, [.ref hs, .ref hj, .ref g1, .ref g3, .int 1, .int 0, .ref g4, .ref g6, .ref g5, .ref g8, .int 0, .ref g9, .int 0, .ref g10, .int 0, .int 1, .null])), (g3, .inl (e5, 256, .inr (.inr (.inr (.inr fb)))))]) hP hD [1, 2] [0, 3] rfl rfl (by decide) (by decide) hk19 hFc hP1 hD1
        generalize H1 = H at hP hS ⊢
        have hP : va_P (dC, dI) cl_all [(h0, .inr (0, [.ref ht, .ref ho, .int 0, .int 0, .ref hs, .ref hj, .ref hc, .ref hw, .ref hy, .ref hq])), (g6, .inr (6, [.null, .int 0, .ref g7, .int 0, .int 32768, .int 0, .ref g11, .int 0, .null, .int 0, .int 0, .long 0, .int 1, .int 0, .int 1, .int 0, .ref g12])), (hc, .inr (5, [.ref hs, .ref hj, .ref g1, .ref g3, .int 1, .int 0, .ref g4, .ref g6, .ref g5, .ref g8, .int 0, .ref g9, .int 0, .ref g10, .int 0, .int 1, .null])), (g3, .inl (e5, 256, .inr (.inr (.inr (.inr fb)))))] H := hP
        have hD : va_D A [(h0, .inr (0, [.ref ht, .ref ho, .int 0, .int 0, .ref hs, .ref hj, .ref hc, .ref hw, .ref hy, .ref hq])), (g6, .inr (6, [.null, .int 0, .ref g7, .int 0, .int 32768, .int 0, .ref g11, .int 0, .null, .int 0, .int 0, .long 0, .int 1, .int 0, .int 1, .int 0, .ref g12])), (hc, .inr (5, [.ref hs, .ref hj, .ref g1, .ref g3, .int 1, .int 0, .ref g4, .ref g6, .ref g5, .ref g8, .int 0, .ref g9, .int 0, .ref g10, .int 0, .int 1, .null])), (g3, .inl (e5, 256, .inr (.inr (.inr (.inr fb)))))] := hD
        subst hw9
        refine W.eq (g2 := F0 m 19 ls [.ref g6]) rfl ?_
        refine lv_astore_n (lv' := [(3, .ref g6), (0, .ref h0), (1, .int 0), (2, .int x2)]) hx hb d_CL_stored_19 rfl hl (by decide) rfl (fun ls hl => ?_)
        refine lv_aload_n hx hb d_CL_stored_20 rfl (lv_at hl 0 rfl) ?_
        refine lv_ifnonnull (tgt := 27) hx hb d_CL_stored_21 (by decide) ?_
        refine lv_iload_n hx hb d_CL_stored_27 rfl (lv_at hl 3 rfl) ?_
        by_cases c_4 : x2 = 0
        · subst c_4
          refine lv_tableIn (tgt := 64) hx hb d_CL_stored_28 (by decide) (by decide) rfl (by decide) ?_
          refine lv_aload_n hx hb d_CL_stored_64 rfl (lv_at hl 0 rfl) ?_
          refine va_get (D := (dC, dI)) (ci := 6) (v := .int 0) (C := R_Block) (T := F_Block) (N := 17) hx hb hT i_Block hown hK hP 1 rfl rfl 10 (by decide) (hT _ k_220) (fun _ h9 => h9) rfl d_CL_stored_65 ?_
          exact W.iret (v := 0) hx hb hr (fun t9 ht9 hW9 => ⟨⟨0, (), rfl, (by simp [an_stored, c_1, c_2]), trivial⟩, hS.F ht9⟩) hS.2.2 d_CL_stored_68
        · by_cases c_5 : x2 = 1
          · subst c_5
            refine lv_tableIn (tgt := 69) hx hb d_CL_stored_28 (by decide) (by decide) rfl (by decide) ?_
            refine lv_aload_n hx hb d_CL_stored_69 rfl (lv_at hl 0 rfl) ?_
            refine va_get (D := (dC, dI)) (ci := 6) (v := .null) (C := R_Block) (T := F_Block) (N := 17) hx hb hT i_Block hown hK hP 1 rfl rfl 8 (by decide) (hT _ k_231) (fun _ h9 => h9) rfl d_CL_stored_70 ?_
            refine lv_ifnonnullN hx hb d_CL_stored_73 ?_
            refine lv_bipush (v := -2) hx hb d_CL_stored_76 (by decide) ?_
            refine lv_goto (tgt := 88) hx hb d_CL_stored_78 (by decide) ?_
            exact W.iret (v := (-2)) hx hb hr (fun t9 ht9 hW9 => ⟨⟨(-2), (), rfl, (by simp [an_stored, c_1, c_2]), trivial⟩, hS.F ht9⟩) hS.2.2 d_CL_stored_88
          · by_cases c_6 : x2 = 2
            · subst c_6
              refine lv_tableIn (tgt := 89) hx hb d_CL_stored_28 (by decide) (by decide) rfl (by decide) ?_
              refine lv_aload_n hx hb d_CL_stored_89 rfl (lv_at hl 0 rfl) ?_
              refine va_get (D := (dC, dI)) (ci := 6) (v := .int 0) (C := R_Block) (T := F_Block) (N := 17) hx hb hT i_Block hown hK hP 1 rfl rfl 3 (by decide) (hT _ k_232) (fun _ h9 => h9) rfl d_CL_stored_90 ?_
              exact W.iret (v := 0) hx hb hr (fun t9 ht9 hW9 => ⟨⟨0, (), rfl, (by simp [an_stored, c_1, c_2]), trivial⟩, hS.F ht9⟩) hS.2.2 d_CL_stored_93
            · by_cases c_7 : x2 = 3
              · subst c_7
                refine lv_tableIn (tgt := 94) hx hb d_CL_stored_28 (by decide) (by decide) rfl (by decide) ?_
                refine lv_aload_n hx hb d_CL_stored_94 rfl (lv_at hl 0 rfl) ?_
                refine va_get (D := (dC, dI)) (ci := 6) (v := .int 32768) (C := R_Block) (T := F_Block) (N := 17) hx hb hT i_Block hown hK hP 1 rfl rfl 4 (by decide) (hT _ k_233) (fun _ h9 => h9) rfl d_CL_stored_95 ?_
                exact W.iret (v := 32768) hx hb hr (fun t9 ht9 hW9 => ⟨⟨32768, (), rfl, (by simp [an_stored, c_1, c_2]), trivial⟩, hS.F ht9⟩) hS.2.2 d_CL_stored_98
              · by_cases c_8 : x2 = 4
                · subst c_8
                  refine lv_tableIn (tgt := 99) hx hb d_CL_stored_28 (by decide) (by decide) rfl (by decide) ?_
                  refine lv_aload_n hx hb d_CL_stored_99 rfl (lv_at hl 0 rfl) ?_
                  refine va_get (D := (dC, dI)) (ci := 6) (v := .int 0) (C := R_Block) (T := F_Block) (N := 17) hx hb hT i_Block hown hK hP 1 rfl rfl 5 (by decide) (hT _ k_234) (fun _ h9 => h9) rfl d_CL_stored_100 ?_
                  exact W.iret (v := 0) hx hb hr (fun t9 ht9 hW9 => ⟨⟨0, (), rfl, (by simp [an_stored, c_1, c_2]), trivial⟩, hS.F ht9⟩) hS.2.2 d_CL_stored_103
                · have hsw : (x2 : Int32).toInt < 0 ∨ 4 < (x2 : Int32).toInt := zz_out5 c_4 c_5 c_6 c_7 c_8
                  refine lv_tableOut (tgt := 104) hx hb d_CL_stored_28 hsw (by decide) ?_
                  refine lv_aload_n hx hb d_CL_stored_104 rfl (lv_at hl 0 rfl) ?_
                  refine va_get (D := (dC, dI)) (ci := 6) (v := .int 1) (C := R_Block) (T := F_Block) (N := 17) hx hb hT i_Block hown hK hP 1 rfl rfl 14 (by decide) (hT _ k_235) (fun _ h9 => h9) rfl d_CL_stored_105 ?_
                  refine lv_if_eq (tgt := 115) hx hb d_CL_stored_108 (by decide) (fun h => absurd h (by decide)) (fun _ => ?_)
                  refine lv_iconst (v := 1) hx hb d_CL_stored_111 (by decide) ?_
                  refine lv_goto (tgt := 116) hx hb d_CL_stored_112 (by decide) ?_
                  exact W.iret (v := 1) hx hb hr (fun t9 ht9 hW9 => ⟨⟨1, (), rfl, (by simp [an_stored, c_1, c_2, c_4, c_5, c_6, c_7, c_8]), trivial⟩, hS.F ht9⟩) hS.2.2 d_CL_stored_116
      · have hPc := hP.sub (ws' := [(hc, .inr (5, [.ref hs, .ref hj, .ref g1, .ref g3, .int 1, .int 0, .ref g4, .ref g6, .ref g5, .ref g8, .int 0, .ref g9, .int 0, .ref g10, .int 0, .int 1, .null]))]) [1] rfl
        have hDc := hD.sub (ws' := [(hc, .inr (5, [.ref hs, .ref hj, .ref g1, .ref g3, .int 1, .int 0, .ref g4, .ref g6, .ref g5, .ref g8, .int 0, .ref g9, .int 0, .ref g10, .int 0, .int 1, .null]))]) [1] (by decide) rfl
        have hKc := hK.sub (tys' := []) [] rfl
        have hFc := va_free (wc := [(hc, .inr (5, [.ref hs, .ref hj, .ref g1, .ref g3, .int 1, .int 0, .ref g4, .ref g6, .ref g5, .ref g8, .int 0, .ref g9, .int 0, .ref g10, .int 0, .int 1, .null]))]) hD hS hA [1] rfl
        refine va_callq (va_runV (C := R_Chain) (As := [.int x1]) (rest := []) ⟨hx, hb, hml, hown, hT⟩ (c_Chain_numberedN l dC dI z s.heap.size g1 g3 g4 g5 g6 g8 g9 g10 hs hj hc x1 hz) ⟨callB_of 1 hT g_Chain_numbered rfl rfl rfl (hT _ k_132) (hT _ k_228) (by decide +kernel) ⟨Nat.le_of_ble_eq_true rfl, Nat.le_of_ble_eq_true rfl⟩, (hT _ k_229), (hT _ k_230)⟩ (zz_preV hPc hKc hDc hZ hS hFc hK hP (ci := 5) (q0 := 1) (q := (R_Chain, F_Chain, 17)) rfl rfl) rfl rfl hl.1 rfl (lv_room (Nat.le_of_ble_eq_true rfl)) d_CL_stored_16 ⟨Nat.le_of_ble_eq_true rfl, Nat.le_of_ble_eq_true rfl⟩) hS (fun q _ h => hFc q h) hFc (fun r_9 u9 t9 H1 locs ht9 hvm9 hw9 hB9 hz19 hk19 hS => ?_)
        obtain ⟨hP1, hK1, hD1⟩ := hB9
        rw [ht9] at hP1
        obtain ⟨hP, hD⟩ := va_join (wr := [(h0, .inr (0, [.ref ht, .ref ho, .int 0, .int 0, .ref hs, .ref hj, .ref hc, .ref hw, .ref hy, .ref hq])), (g3, .inl (e5, 256, .inr (.inr (.inr (.inr fb))))), (g6, .inr (6, [.null, .int 0, .ref g7, .int 0, .int 32768, .int 0, .ref g11, .int 0, .null, .int 0, .int 0, .long 0, .int 1, .int 0, .int 1, .int 0, .ref g12]))]) (w1 := [(hc, .inr (5, [.ref hs, .ref hj, .ref g1, .ref g3, .int 1, .int 0, .ref g4, .ref g6, .ref g5, .ref g8, .int 0, .ref g9, .int 0, .ref g10, .int 0, .int 1, .null]))]) hP hD [1] [0, 2, 3] rfl rfl (by decide) (by decide) hk19 hFc hP1 hD1
        generalize H1 = H at hP hS ⊢
        have hP : va_P (dC, dI) cl_all [(h0, .inr (0, [.ref ht, .ref ho, .int 0, .int 0, .ref hs, .ref hj, .ref hc, .ref hw, .ref hy, .ref hq])), (g3, .inl (e5, 256, .inr (.inr (.inr (.inr fb))))), (g6, .inr (6, [.null, .int 0, .ref g7, .int 0, .int 32768, .int 0, .ref g11, .int 0, .null, .int 0, .int 0, .long 0, .int 1, .int 0, .int 1, .int 0, .ref g12])), (hc, .inr (5, [.ref hs, .ref hj, .ref g1, .ref g3, .int 1, .int 0, .ref g4, .ref g6, .ref g5, .ref g8, .int 0, .ref g9, .int 0, .ref g10, .int 0, .int 1, .null]))] H := hP
        have hD : va_D A [(h0, .inr (0, [.ref ht, .ref ho, .int 0, .int 0, .ref hs, .ref hj, .ref hc, .ref hw, .ref hy, .ref hq])), (g3, .inl (e5, 256, .inr (.inr (.inr (.inr fb))))), (g6, .inr (6, [.null, .int 0, .ref g7, .int 0, .int 32768, .int 0, .ref g11, .int 0, .null, .int 0, .int 0, .long 0, .int 1, .int 0, .int 1, .int 0, .ref g12])), (hc, .inr (5, [.ref hs, .ref hj, .ref g1, .ref g3, .int 1, .int 0, .ref g4, .ref g6, .ref g5, .ref g8, .int 0, .ref g9, .int 0, .ref g10, .int 0, .int 1, .null]))] := hD
        subst hw9
        refine W.eq (g2 := F0 m 19 ls [.null]) rfl ?_
        refine lv_astore_nN (lv' := [(3, .null), (0, .ref h0), (1, .int x1), (2, .int x2)]) hx hb d_CL_stored_19 rfl hl (by decide) rfl (fun ls hl => ?_)
        refine lv_aload_nN hx hb d_CL_stored_20 rfl (lv_at hl 0 rfl) ?_
        refine lv_ifnonnullN hx hb d_CL_stored_21 ?_
        refine lv_bipush (v := -2) hx hb d_CL_stored_24 (by decide) ?_
        exact W.iret (v := (-2)) hx hb hr (fun t9 ht9 hW9 => ⟨⟨(-2), (), rfl, (by simp [an_stored, c_1, c_2, hz]), trivial⟩, hS.F ht9⟩) hS.2.2 d_CL_stored_26
    · refine lv_iconst (v := -1) hx hb d_CL_stored_9 (by decide) ?_
      exact W.iret (v := (-1)) hx hb hr (fun t9 ht9 hW9 => ⟨⟨(-1), (), rfl, (by simp [an_stored, c_1, c_2]), trivial⟩, hS.F ht9⟩) hS.2.2 d_CL_stored_10
set_option maxHeartbeats 4000000 in
set_option maxRecDepth 100000 in
theorem c_CL_coin (l : Launch) (dC : Nat → ClassId) (dI : Nat → Nat → Nat) (z : zT) (sz : Nat) (h0 ht ho hs hj hc hw hy hq g1 g3 g4 g5 g6 g8 g9 g10 g2 : Nat) (x1 x2 : Int32)  : Met l y_CL_coin w_CL_coin ({ frames := 1, cells := 0, slots := 0, locals := 20 }) (va_Pc [.ref h0, .int x1, .int x2] (fun U => U.heap.size = sz ∧ va_P (dC, dI) cl_all [(h0, .inr (0, [.ref ht, .ref ho, .int 0, .int 0, .ref hs, .ref hj, .ref hc, .ref hw, .ref hy, .ref hq])), (hc, .inr (5, [.ref hs, .ref hj, .ref g1, .ref g3, .int 1, .int 0, .ref g4, .ref g6, .ref g5, .ref g8, .int 0, .ref g9, .int 0, .ref g10, .int 0, .int 1, .null])), (g1, .inr (8, [.ref g2])), (g2, .inr (10, [.int 0, .ref z.1, .int 0]))] U.heap ∧ va_K (dC, dI) cl_all [] U ∧ va_D (fun _ => True) [(h0, .inr (0, [.ref ht, .ref ho, .int 0, .int 0, .ref hs, .ref hj, .ref hc, .ref hw, .ref hy, .ref hq])), (hc, .inr (5, [.ref hs, .ref hj, .ref g1, .ref g3, .int 1, .int 0, .ref g4, .ref g6, .ref g5, .ref g8, .int 0, .ref g9, .int 0, .ref g10, .int 0, .int 1, .null])), (g1, .inr (8, [.ref g2])), (g2, .inr (10, [.int 0, .ref z.1, .int 0]))] ∧ zz z (va_A [(h0, .inr (0, [.ref ht, .ref ho, .int 0, .int 0, .ref hs, .ref hj, .ref hc, .ref hw, .ref hy, .ref hq])), (hc, .inr (5, [.ref hs, .ref hj, .ref g1, .ref g3, .int 1, .int 0, .ref g4, .ref g6, .ref g5, .ref g8, .int 0, .ref g9, .int 0, .ref g10, .int 0, .int 1, .null])), (g1, .inr (8, [.ref g2])), (g2, .inr (10, [.int 0, .ref z.1, .int 0]))] sz) U U.heap)) (va_Qi (fun (r : Int32) (_ : Unit) => r = an_coin x2) (fun _ t => True) (va_A [(h0, .inr (0, [.ref ht, .ref ho, .int 0, .int 0, .ref hs, .ref hj, .ref hc, .ref hw, .ref hy, .ref hq])), (hc, .inr (5, [.ref hs, .ref hj, .ref g1, .ref g3, .int 1, .int 0, .ref g4, .ref g6, .ref g5, .ref g8, .int 0, .ref g9, .int 0, .ref g10, .int 0, .int 1, .null])), (g1, .inr (8, [.ref g2])), (g2, .inr (10, [.int 0, .ref z.1, .int 0]))] sz)) 0 0 (va_A [(h0, .inr (0, [.ref ht, .ref ho, .int 0, .int 0, .ref hs, .ref hj, .ref hc, .ref hw, .ref hy, .ref hq])), (hc, .inr (5, [.ref hs, .ref hj, .ref g1, .ref g3, .int 1, .int 0, .ref g4, .ref g6, .ref g5, .ref g8, .int 0, .ref g9, .int 0, .ref g10, .int 0, .int 1, .null])), (g1, .inr (8, [.ref g2])), (g2, .inr (10, [.int 0, .ref z.1, .int 0]))] sz) := by
  refine Met.ofW (cc := b_CL_coin) (maxL := 4) (ret := (some (.int))) (by decide) rfl ?_
  intro p e s m args below meth c s₁ B hml hv
  obtain ⟨rfl, hsz, hP, hK, hD0, hZ⟩ := hv
  have hx := B.exec
  have hb := B.bytes
  have hr := B.returns
  have hT : ∀ w ∈ lw_all, w.before _ s = true := fun w h => atoms_spec (ws := w_CL_coin) B.pre w (List.mem_cons_of_mem _ h)
  have hown : s.vm.findClass R_CL = some m.cls := findClass_of_methodNamed B.named
  have hlocks := B.notSynchronized
  subst hsz
  have hD := hD0.self (sz := s.heap.size)
  generalize hAe : va_A [(h0, .inr (0, [.ref ht, .ref ho, .int 0, .int 0, .ref hs, .ref hj, .ref hc, .ref hw, .ref hy, .ref hq])), (hc, .inr (5, [.ref hs, .ref hj, .ref g1, .ref g3, .int 1, .int 0, .ref g4, .ref g6, .ref g5, .ref g8, .int 0, .ref g9, .int 0, .ref g10, .int 0, .int 1, .null])), (g1, .inr (8, [.ref g2])), (g2, .inr (10, [.int 0, .ref z.1, .int 0]))] s.heap.size = A at hD hZ ⊢
  have hA : ∀ q : Nat, s.heap.size ≤ q → A q := fun q h => by rw [← hAe]; exact Or.inr h
  have hS : va_S A s.heap s.heap [] := va_S.rf
  have hl := lv_entry ([.ref h0, .int x1, .int x2]) (n := 4) (Nat.le_of_ble_eq_true rfl)
  rw [lg_entry_eq]
  generalize (lg_sl ([.ref h0, .int x1, .int x2]) ++ List.replicate (4 - (lg_sl ([.ref h0, .int x1, .int x2])).length) Slot.unset).toArray = ls at hl ⊢
  have hl : lv_has ls 4 [(0, .ref h0), (1, .int x1), (2, .int x2)] := hl
  refine lv_iload_n hx hb d_CL_coin_0 rfl (lv_at hl 2 rfl) ?_
  refine lv_if_lt (tgt := 9) hx hb d_CL_coin_1 (by decide) (fun c_1 => ?_) (fun c_1 => ?_)
  · refine lv_iconst (v := -1) hx hb d_CL_coin_9 (by decide) ?_
    exact W.iret (v := (-1)) hx hb hr (fun t9 ht9 hW9 => ⟨⟨(-1), (), rfl, (by simp [an_coin, c_1]), trivial⟩, hS.F ht9⟩) hS.2.2 d_CL_coin_10
  · refine lv_iload_n hx hb d_CL_coin_4 rfl (lv_at hl 2 rfl) ?_
    refine lv_iconst (v := 5) hx hb d_CL_coin_5 (by decide) ?_
    refine lv_icmp_le (tgt := 11) hx hb d_CL_coin_6 (by decide) (fun c_2 => ?_) (fun c_2 => ?_)
    · refine lv_iload_n hx hb d_CL_coin_11 rfl (lv_at hl 1 rfl) ?_
      refine lv_if_lt (tgt := 32) hx hb d_CL_coin_12 (by decide) (fun c_3 => ?_) (fun c_3 => ?_)
      · refine lv_bipush (v := -2) hx hb d_CL_coin_32 (by decide) ?_
        exact W.iret (v := (-2)) hx hb hr (fun t9 ht9 hW9 => ⟨⟨(-2), (), rfl, (by simp [an_coin, c_1, c_2, c_3]), trivial⟩, hS.F ht9⟩) hS.2.2 d_CL_coin_34
      · refine lv_iload_n hx hb d_CL_coin_15 rfl (lv_at hl 1 rfl) ?_
        refine lv_aload_n hx hb d_CL_coin_16 rfl (lv_at hl 0 rfl) ?_
        refine va_get (D := (dC, dI)) (ci := 0) (v := .ref hc) (C := R_CL) (T := F_CL) (N := 10) hx hb hT i_CL hown hK hP 0 rfl rfl 6 (by decide) (hT _ k_184) (fun _ h9 => h9) rfl d_CL_coin_17 ?_
        refine va_get (D := (dC, dI)) (ci := 5) (v := .ref g1) (C := R_Chain) (T := F_Chain) (N := 17) hx hb hT i_Chain hown hK hP 1 rfl rfl 2 (by decide) (hT _ k_210) (fun _ h9 => h9) rfl d_CL_coin_20 ?_
        refine va_get (D := (dC, dI)) (ci := 8) (v := .ref g2) (C := R_Coins) (T := F_Coins) (N := 1) hx hb hT i_Coins hown hK hP 2 rfl rfl 0 (by decide) (hT _ k_211) (fun _ h9 => h9) rfl d_CL_coin_23 ?_
        have hPc := hP.sub (ws' := [(g2, .inr (10, [.int 0, .ref z.1, .int 0]))]) [3] rfl
        have hDc := hD.sub (ws' := [(g2, .inr (10, [.int 0, .ref z.1, .int 0]))]) [3] (by decide) rfl
        have hKc := hK.sub (tys' := []) [] rfl
        have hFc := va_free (wc := [(g2, .inr (10, [.int 0, .ref z.1, .int 0]))]) hD hS hA [3] rfl
        refine va_calli (va_runV (C := R_AL) (As := []) (rest := [.int x1]) ⟨hx, hb, hml, hown, hT⟩ (c_AL_size l dC dI z s.heap.size g2 0 (z.1) 0) ⟨callB_of 0 hT g_AL_size rfl rfl rfl (hT _ k_27) (hT _ k_212) (by decide +kernel) ⟨Nat.le_of_ble_eq_true rfl, Nat.le_of_ble_eq_true rfl⟩, (hT _ k_154), (hT _ k_155)⟩ (zz_preV hPc hKc hDc hZ hS hFc hK hP (ci := 10) (q0 := 3) (q := (R_AL, F_AL, 3)) rfl rfl) rfl rfl hl.1 rfl (lv_room (Nat.le_of_ble_eq_true rfl)) d_CL_coin_26 ⟨Nat.le_of_ble_eq_true rfl, Nat.le_of_ble_eq_true rfl⟩) hS (fun q _ h => hFc q h) hFc (fun r_4 u9 t9 H1 locs ht9 hvm9 hw9 hB9 hz19 hk19 hS => ?_)
        obtain ⟨hP1, hK1, hD1⟩ := hB9
        rw [ht9] at hP1
        obtain ⟨hP, hD⟩ := va_join (wr := [(h0, .inr (0, [.ref ht, .ref ho, .int 0, .int 0, .ref hs, .ref hj, .ref hc, .ref hw, .ref hy, .ref hq])), (hc, .inr (5, [.ref hs, .ref hj, .ref g1, .ref g3, .int 1, .int 0, .ref g4, .ref g6, .ref g5, .ref g8, .int 0, .ref g9, .int 0, .ref g10, .int 0, .int 1, .null])), (g1, .inr (8, [.ref g2]))]) (w1 := [(g2, .inr (10, [.int 0, .ref z.1, .int 0]))]) hP hD [3] [0, 1, 2] rfl rfl (by decide) (by decide) hk19 hFc hP1 hD1
        generalize H1 = H at hP hS ⊢
        have hP : va_P (dC, dI) cl_all [(h0, .inr (0, [.ref ht, .ref ho, .int 0, .int 0, .ref hs, .ref hj, .ref hc, .ref hw, .ref hy, .ref hq])), (hc, .inr (5, [.ref hs, .ref hj, .ref g1, .ref g3, .int 1, .int 0, .ref g4, .ref g6, .ref g5, .ref g8, .int 0, .ref g9, .int 0, .ref g10, .int 0, .int 1, .null])), (g1, .inr (8, [.ref g2])), (g2, .inr (10, [.int 0, .ref z.1, .int 0]))] H := hP
        have hD : va_D A [(h0, .inr (0, [.ref ht, .ref ho, .int 0, .int 0, .ref hs, .ref hj, .ref hc, .ref hw, .ref hy, .ref hq])), (hc, .inr (5, [.ref hs, .ref hj, .ref g1, .ref g3, .int 1, .int 0, .ref g4, .ref g6, .ref g5, .ref g8, .int 0, .ref g9, .int 0, .ref g10, .int 0, .int 1, .null])), (g1, .inr (8, [.ref g2])), (g2, .inr (10, [.int 0, .ref z.1, .int 0]))] := hD
        refine zz_i (v := 0) hw9 ?_
        refine lv_icmp_lt (tgt := 35) hx hb d_CL_coin_29 (by decide) (fun h => absurd h (zz_nlt0 c_3)) (fun _ => ?_)
        refine lv_bipush (v := -2) hx hb d_CL_coin_32 (by decide) ?_
        exact W.iret (v := (-2)) hx hb hr (fun t9 ht9 hW9 => ⟨⟨(-2), (), rfl, (by simp [an_coin, c_1, c_2, c_3]), trivial⟩, hS.F ht9⟩) hS.2.2 d_CL_coin_34
    · refine lv_iconst (v := -1) hx hb d_CL_coin_9 (by decide) ?_
      exact W.iret (v := (-1)) hx hb hr (fun t9 ht9 hW9 => ⟨⟨(-1), (), rfl, (by simp [an_coin, c_1, c_2]), trivial⟩, hS.F ht9⟩) hS.2.2 d_CL_coin_10
set_option maxHeartbeats 4000000 in
set_option maxRecDepth 100000 in
theorem c_CL_balance (l : Launch) (dC : Nat → ClassId) (dI : Nat → Nat → Nat) (z : zT) (sz : Nat) (h0 ht ho hs hj hc hw hy hq b1 g1 g3 g4 g5 g6 g8 g9 g10 g2 : Nat)  : Met l y_CL_balance w_CL_balance ({ frames := 1, cells := 0, slots := 0, locals := 20 }) (va_Pc [.ref h0] (fun U => U.heap.size = sz ∧ va_P (dC, dI) cl_all [(h0, .inr (0, [.ref ht, .ref ho, .int 0, .int 0, .ref hs, .ref hj, .ref hc, .ref hw, .ref hy, .ref hq])), (ht, .inr (1, [.ref b1, .int 0])), (hc, .inr (5, [.ref hs, .ref hj, .ref g1, .ref g3, .int 1, .int 0, .ref g4, .ref g6, .ref g5, .ref g8, .int 0, .ref g9, .int 0, .ref g10, .int 0, .int 1, .null])), (g1, .inr (8, [.ref g2])), (g2, .inr (10, [.int 0, .ref z.1, .int 0]))] U.heap ∧ va_K (dC, dI) cl_all [] U ∧ va_D (fun _ => True) [(h0, .inr (0, [.ref ht, .ref ho, .int 0, .int 0, .ref hs, .ref hj, .ref hc, .ref hw, .ref hy, .ref hq])), (ht, .inr (1, [.ref b1, .int 0])), (hc, .inr (5, [.ref hs, .ref hj, .ref g1, .ref g3, .int 1, .int 0, .ref g4, .ref g6, .ref g5, .ref g8, .int 0, .ref g9, .int 0, .ref g10, .int 0, .int 1, .null])), (g1, .inr (8, [.ref g2])), (g2, .inr (10, [.int 0, .ref z.1, .int 0]))] ∧ zz z (va_A [(h0, .inr (0, [.ref ht, .ref ho, .int 0, .int 0, .ref hs, .ref hj, .ref hc, .ref hw, .ref hy, .ref hq])), (ht, .inr (1, [.ref b1, .int 0])), (hc, .inr (5, [.ref hs, .ref hj, .ref g1, .ref g3, .int 1, .int 0, .ref g4, .ref g6, .ref g5, .ref g8, .int 0, .ref g9, .int 0, .ref g10, .int 0, .int 1, .null])), (g1, .inr (8, [.ref g2])), (g2, .inr (10, [.int 0, .ref z.1, .int 0]))] sz) U U.heap)) (va_Ql (fun (r : Int64) (_ : Unit) => r = 0) (fun _ t => True) (va_A [(h0, .inr (0, [.ref ht, .ref ho, .int 0, .int 0, .ref hs, .ref hj, .ref hc, .ref hw, .ref hy, .ref hq])), (ht, .inr (1, [.ref b1, .int 0])), (hc, .inr (5, [.ref hs, .ref hj, .ref g1, .ref g3, .int 1, .int 0, .ref g4, .ref g6, .ref g5, .ref g8, .int 0, .ref g9, .int 0, .ref g10, .int 0, .int 1, .null])), (g1, .inr (8, [.ref g2])), (g2, .inr (10, [.int 0, .ref z.1, .int 0]))] sz)) 0 0 (va_A [(h0, .inr (0, [.ref ht, .ref ho, .int 0, .int 0, .ref hs, .ref hj, .ref hc, .ref hw, .ref hy, .ref hq])), (ht, .inr (1, [.ref b1, .int 0])), (hc, .inr (5, [.ref hs, .ref hj, .ref g1, .ref g3, .int 1, .int 0, .ref g4, .ref g6, .ref g5, .ref g8, .int 0, .ref g9, .int 0, .ref g10, .int 0, .int 1, .null])), (g1, .inr (8, [.ref g2])), (g2, .inr (10, [.int 0, .ref z.1, .int 0]))] sz) := by
  refine Met.ofW (cc := b_CL_balance) (maxL := 5) (ret := (some (.long))) (by decide) rfl ?_
  intro p e s m args below meth c s₁ B hml hv
  obtain ⟨rfl, hsz, hP, hK, hD0, hZ⟩ := hv
  have hx := B.exec
  have hb := B.bytes
  have hr := B.returns
  have hT : ∀ w ∈ lw_all, w.before _ s = true := fun w h => atoms_spec (ws := w_CL_balance) B.pre w (List.mem_cons_of_mem _ h)
  have hown : s.vm.findClass R_CL = some m.cls := findClass_of_methodNamed B.named
  have hlocks := B.notSynchronized
  subst hsz
  have hD := hD0.self (sz := s.heap.size)
  generalize hAe : va_A [(h0, .inr (0, [.ref ht, .ref ho, .int 0, .int 0, .ref hs, .ref hj, .ref hc, .ref hw, .ref hy, .ref hq])), (ht, .inr (1, [.ref b1, .int 0])), (hc, .inr (5, [.ref hs, .ref hj, .ref g1, .ref g3, .int 1, .int 0, .ref g4, .ref g6, .ref g5, .ref g8, .int 0, .ref g9, .int 0, .ref g10, .int 0, .int 1, .null])), (g1, .inr (8, [.ref g2])), (g2, .inr (10, [.int 0, .ref z.1, .int 0]))] s.heap.size = A at hD hZ ⊢
  have hA : ∀ q : Nat, s.heap.size ≤ q → A q := fun q h => by rw [← hAe]; exact Or.inr h
  have hS : va_S A s.heap s.heap [] := va_S.rf
  have hl := lv_entry ([.ref h0]) (n := 5) (Nat.le_of_ble_eq_true rfl)
  rw [lg_entry_eq]
  generalize (lg_sl ([.ref h0]) ++ List.replicate (5 - (lg_sl ([.ref h0])).length) Slot.unset).toArray = ls at hl ⊢
  have hl : lv_has ls 5 [(0, .ref h0)] := hl
  refine lv_lconst (v := 0) hx hb d_CL_balance_0 (by decide) ?_
  refine lv_lstore_n (lv' := [(1, .long 0), (0, .ref h0)]) hx hb d_CL_balance_1 rfl hl (by decide) rfl (fun ls hl => ?_)
  refine lv_iconst (v := 0) hx hb d_CL_balance_2 (by decide) ?_
  refine lv_istore_n (lv' := [(3, .int 0), (1, .long 0), (0, .ref h0)]) hx hb d_CL_balance_3 rfl hl (by decide) rfl (fun ls hl => ?_)
  refine lv_iload_n hx hb d_CL_balance_4 rfl (lv_at hl 0 rfl) ?_
  refine lv_aload_n hx hb d_CL_balance_5 rfl (lv_at hl 2 rfl) ?_
  refine va_get (D := (dC, dI)) (ci := 0) (v := .ref hc) (C := R_CL) (T := F_CL) (N := 10) hx hb hT i_CL hown hK hP 0 rfl rfl 6 (by decide) (hT _ k_184) (fun _ h9 => h9) rfl d_CL_balance_6 ?_
  refine va_get (D := (dC, dI)) (ci := 5) (v := .ref g1) (C := R_Chain) (T := F_Chain) (N := 17) hx hb hT i_Chain hown hK hP 2 rfl rfl 2 (by decide) (hT _ k_210) (fun _ h9 => h9) rfl d_CL_balance_9 ?_
  refine va_get (D := (dC, dI)) (ci := 8) (v := .ref g2) (C := R_Coins) (T := F_Coins) (N := 1) hx hb hT i_Coins hown hK hP 3 rfl rfl 0 (by decide) (hT _ k_211) (fun _ h9 => h9) rfl d_CL_balance_12 ?_
  have hPc := hP.sub (ws' := [(g2, .inr (10, [.int 0, .ref z.1, .int 0]))]) [4] rfl
  have hDc := hD.sub (ws' := [(g2, .inr (10, [.int 0, .ref z.1, .int 0]))]) [4] (by decide) rfl
  have hKc := hK.sub (tys' := []) [] rfl
  have hFc := va_free (wc := [(g2, .inr (10, [.int 0, .ref z.1, .int 0]))]) hD hS hA [4] rfl
  refine va_calli (va_runV (C := R_AL) (As := []) (rest := [.int 0]) ⟨hx, hb, hml, hown, hT⟩ (c_AL_size l dC dI z s.heap.size g2 0 (z.1) 0) ⟨callB_of 0 hT g_AL_size rfl rfl rfl (hT _ k_27) (hT _ k_212) (by decide +kernel) ⟨Nat.le_of_ble_eq_true rfl, Nat.le_of_ble_eq_true rfl⟩, (hT _ k_154), (hT _ k_155)⟩ (zz_preV hPc hKc hDc hZ hS hFc hK hP (ci := 10) (q0 := 4) (q := (R_AL, F_AL, 3)) rfl rfl) rfl rfl hl.1 rfl (lv_room (Nat.le_of_ble_eq_true rfl)) d_CL_balance_15 ⟨Nat.le_of_ble_eq_true rfl, Nat.le_of_ble_eq_true rfl⟩) hS (fun q _ h => hFc q h) hFc (fun r_1 u9 t9 H1 locs ht9 hvm9 hw9 hB9 hz19 hk19 hS => ?_)
  obtain ⟨hP1, hK1, hD1⟩ := hB9
  rw [ht9] at hP1
  obtain ⟨hP, hD⟩ := va_join (wr := [(h0, .inr (0, [.ref ht, .ref ho, .int 0, .int 0, .ref hs, .ref hj, .ref hc, .ref hw, .ref hy, .ref hq])), (ht, .inr (1, [.ref b1, .int 0])), (hc, .inr (5, [.ref hs, .ref hj, .ref g1, .ref g3, .int 1, .int 0, .ref g4, .ref g6, .ref g5, .ref g8, .int 0, .ref g9, .int 0, .ref g10, .int 0, .int 1, .null])), (g1, .inr (8, [.ref g2]))]) (w1 := [(g2, .inr (10, [.int 0, .ref z.1, .int 0]))]) hP hD [4] [0, 1, 2, 3] rfl rfl (by decide) (by decide) hk19 hFc hP1 hD1
  generalize H1 = H at hP hS ⊢
  have hP : va_P (dC, dI) cl_all [(h0, .inr (0, [.ref ht, .ref ho, .int 0, .int 0, .ref hs, .ref hj, .ref hc, .ref hw, .ref hy, .ref hq])), (ht, .inr (1, [.ref b1, .int 0])), (hc, .inr (5, [.ref hs, .ref hj, .ref g1, .ref g3, .int 1, .int 0, .ref g4, .ref g6, .ref g5, .ref g8, .int 0, .ref g9, .int 0, .ref g10, .int 0, .int 1, .null])), (g1, .inr (8, [.ref g2])), (g2, .inr (10, [.int 0, .ref z.1, .int 0]))] H := hP
  have hD : va_D A [(h0, .inr (0, [.ref ht, .ref ho, .int 0, .int 0, .ref hs, .ref hj, .ref hc, .ref hw, .ref hy, .ref hq])), (ht, .inr (1, [.ref b1, .int 0])), (hc, .inr (5, [.ref hs, .ref hj, .ref g1, .ref g3, .int 1, .int 0, .ref g4, .ref g6, .ref g5, .ref g8, .int 0, .ref g9, .int 0, .ref g10, .int 0, .int 1, .null])), (g1, .inr (8, [.ref g2])), (g2, .inr (10, [.int 0, .ref z.1, .int 0]))] := hD
  refine zz_i (v := 0) hw9 ?_
  refine lv_icmp_ge (tgt := 77) hx hb d_CL_balance_18 (by decide) (fun _ => ?_) (fun h => absurd (by decide) h)
  refine lv_aload_n hx hb d_CL_balance_77 rfl (lv_at hl 2 rfl) ?_
  refine va_get (D := (dC, dI)) (ci := 0) (v := .ref ht) (C := R_CL) (T := F_CL) (N := 10) hx hb hT i_CL hown hK hP 0 rfl rfl 0 (by decide) (hT _ k_167) (fun _ h9 => h9) rfl d_CL_balance_78 ?_
  refine lv_iconst (v := 0) hx hb d_CL_balance_81 (by decide) ?_
  refine va_put (D := (dC, dI)) (ci := 1) (v := .int 0) (ty := .int) (C := R_Row) (T := F_Row) (N := 2) hx hb hT i_Row t_Row t_Row_ok n_Row hown hK hP hD hS 1 rfl rfl 1 (by decide) (hT _ k_195) (fun _ h9 => h9) rfl (by decide +kernel) rfl rfl (Nat.le_of_ble_eq_true rfl) d_CL_balance_82 (fun H locs hP hD hS => ?_)
  have hP : va_P (dC, dI) cl_all [(h0, .inr (0, [.ref ht, .ref ho, .int 0, .int 0, .ref hs, .ref hj, .ref hc, .ref hw, .ref hy, .ref hq])), (ht, .inr (1, [.ref b1, .int 0])), (hc, .inr (5, [.ref hs, .ref hj, .ref g1, .ref g3, .int 1, .int 0, .ref g4, .ref g6, .ref g5, .ref g8, .int 0, .ref g9, .int 0, .ref g10, .int 0, .int 1, .null])), (g1, .inr (8, [.ref g2])), (g2, .inr (10, [.int 0, .ref z.1, .int 0]))] H := hP
  have hD : va_D A [(h0, .inr (0, [.ref ht, .ref ho, .int 0, .int 0, .ref hs, .ref hj, .ref hc, .ref hw, .ref hy, .ref hq])), (ht, .inr (1, [.ref b1, .int 0])), (hc, .inr (5, [.ref hs, .ref hj, .ref g1, .ref g3, .int 1, .int 0, .ref g4, .ref g6, .ref g5, .ref g8, .int 0, .ref g9, .int 0, .ref g10, .int 0, .int 1, .null])), (g1, .inr (8, [.ref g2])), (g2, .inr (10, [.int 0, .ref z.1, .int 0]))] := hD
  refine lv_lload_n hx hb d_CL_balance_85 rfl (lv_at hl 1 rfl) ?_
  exact W.lret (v := 0) hx hb hr (fun t9 ht9 hW9 => ⟨⟨0, (), rfl, rfl, trivial⟩, hS.F ht9⟩) hS.2.2 d_CL_balance_86
set_option maxHeartbeats 4000000 in
set_option maxRecDepth 100000 in
theorem c_CL_pooled (l : Launch) (dC : Nat → ClassId) (dI : Nat → Nat → Nat) (z : zT) (sz : Nat) (h0 ht ho hs hj hc hw hy hq g6 g13 g14 : Nat) (x1 x2 : Int32)  : Met l y_CL_pooled w_CL_pooled ({ frames := 1, cells := 0, slots := 0, locals := 20 }) (va_Pc [.ref h0, .int x1, .int x2] (fun U => U.heap.size = sz ∧ va_P (dC, dI) cl_all [(h0, .inr (0, [.ref ht, .ref ho, .int 0, .int 0, .ref hs, .ref hj, .ref hc, .ref hw, .ref hy, .ref hq])), (hw, .inr (9, [.ref hs, .ref hj, .ref hc, .ref g13, .ref g14, .ref g6, .null])), (g13, .inr (10, [.int 0, .ref z.1, .int 0]))] U.heap ∧ va_K (dC, dI) cl_all [] U ∧ va_D (fun _ => True) [(h0, .inr (0, [.ref ht, .ref ho, .int 0, .int 0, .ref hs, .ref hj, .ref hc, .ref hw, .ref hy, .ref hq])), (hw, .inr (9, [.ref hs, .ref hj, .ref hc, .ref g13, .ref g14, .ref g6, .null])), (g13, .inr (10, [.int 0, .ref z.1, .int 0]))] ∧ zz z (va_A [(h0, .inr (0, [.ref ht, .ref ho, .int 0, .int 0, .ref hs, .ref hj, .ref hc, .ref hw, .ref hy, .ref hq])), (hw, .inr (9, [.ref hs, .ref hj, .ref hc, .ref g13, .ref g14, .ref g6, .null])), (g13, .inr (10, [.int 0, .ref z.1, .int 0]))] sz) U U.heap)) (va_Qi (fun (r : Int32) (_ : Unit) => r = an_pooled x2) (fun _ t => True) (va_A [(h0, .inr (0, [.ref ht, .ref ho, .int 0, .int 0, .ref hs, .ref hj, .ref hc, .ref hw, .ref hy, .ref hq])), (hw, .inr (9, [.ref hs, .ref hj, .ref hc, .ref g13, .ref g14, .ref g6, .null])), (g13, .inr (10, [.int 0, .ref z.1, .int 0]))] sz)) 0 0 (va_A [(h0, .inr (0, [.ref ht, .ref ho, .int 0, .int 0, .ref hs, .ref hj, .ref hc, .ref hw, .ref hy, .ref hq])), (hw, .inr (9, [.ref hs, .ref hj, .ref hc, .ref g13, .ref g14, .ref g6, .null])), (g13, .inr (10, [.int 0, .ref z.1, .int 0]))] sz) := by
  refine Met.ofW (cc := b_CL_pooled) (maxL := 4) (ret := (some (.int))) (by decide) rfl ?_
  intro p e s m args below meth c s₁ B hml hv
  obtain ⟨rfl, hsz, hP, hK, hD0, hZ⟩ := hv
  have hx := B.exec
  have hb := B.bytes
  have hr := B.returns
  have hT : ∀ w ∈ lw_all, w.before _ s = true := fun w h => atoms_spec (ws := w_CL_pooled) B.pre w (List.mem_cons_of_mem _ h)
  have hown : s.vm.findClass R_CL = some m.cls := findClass_of_methodNamed B.named
  have hlocks := B.notSynchronized
  subst hsz
  have hD := hD0.self (sz := s.heap.size)
  generalize hAe : va_A [(h0, .inr (0, [.ref ht, .ref ho, .int 0, .int 0, .ref hs, .ref hj, .ref hc, .ref hw, .ref hy, .ref hq])), (hw, .inr (9, [.ref hs, .ref hj, .ref hc, .ref g13, .ref g14, .ref g6, .null])), (g13, .inr (10, [.int 0, .ref z.1, .int 0]))] s.heap.size = A at hD hZ ⊢
  have hA : ∀ q : Nat, s.heap.size ≤ q → A q := fun q h => by rw [← hAe]; exact Or.inr h
  have hS : va_S A s.heap s.heap [] := va_S.rf
  have hl := lv_entry ([.ref h0, .int x1, .int x2]) (n := 4) (Nat.le_of_ble_eq_true rfl)
  rw [lg_entry_eq]
  generalize (lg_sl ([.ref h0, .int x1, .int x2]) ++ List.replicate (4 - (lg_sl ([.ref h0, .int x1, .int x2])).length) Slot.unset).toArray = ls at hl ⊢
  have hl : lv_has ls 4 [(0, .ref h0), (1, .int x1), (2, .int x2)] := hl
  refine lv_iload_n hx hb d_CL_pooled_0 rfl (lv_at hl 2 rfl) ?_
  refine lv_if_lt (tgt := 9) hx hb d_CL_pooled_1 (by decide) (fun c_1 => ?_) (fun c_1 => ?_)
  · refine lv_iconst (v := -1) hx hb d_CL_pooled_9 (by decide) ?_
    exact W.iret (v := (-1)) hx hb hr (fun t9 ht9 hW9 => ⟨⟨(-1), (), rfl, (by simp [an_pooled, c_1]), trivial⟩, hS.F ht9⟩) hS.2.2 d_CL_pooled_10
  · refine lv_iload_n hx hb d_CL_pooled_4 rfl (lv_at hl 2 rfl) ?_
    refine lv_iconst (v := 3) hx hb d_CL_pooled_5 (by decide) ?_
    refine lv_icmp_le (tgt := 11) hx hb d_CL_pooled_6 (by decide) (fun c_2 => ?_) (fun c_2 => ?_)
    · refine lv_iload_n hx hb d_CL_pooled_11 rfl (lv_at hl 1 rfl) ?_
      refine lv_if_lt (tgt := 29) hx hb d_CL_pooled_12 (by decide) (fun c_3 => ?_) (fun c_3 => ?_)
      · refine lv_bipush (v := -2) hx hb d_CL_pooled_29 (by decide) ?_
        exact W.iret (v := (-2)) hx hb hr (fun t9 ht9 hW9 => ⟨⟨(-2), (), rfl, (by simp [an_pooled, c_1, c_2, c_3]), trivial⟩, hS.F ht9⟩) hS.2.2 d_CL_pooled_31
      · refine lv_iload_n hx hb d_CL_pooled_15 rfl (lv_at hl 1 rfl) ?_
        refine lv_aload_n hx hb d_CL_pooled_16 rfl (lv_at hl 0 rfl) ?_
        refine va_get (D := (dC, dI)) (ci := 0) (v := .ref hw) (C := R_CL) (T := F_CL) (N := 10) hx hb hT i_CL hown hK hP 0 rfl rfl 7 (by decide) (hT _ k_190) (fun _ h9 => h9) rfl d_CL_pooled_17 ?_
        refine va_get (D := (dC, dI)) (ci := 9) (v := .ref g13) (C := R_Pool) (T := F_Pool) (N := 7) hx hb hT i_Pool hown hK hP 1 rfl rfl 3 (by decide) (hT _ k_236) (fun _ h9 => h9) rfl d_CL_pooled_20 ?_
        have hPc := hP.sub (ws' := [(g13, .inr (10, [.int 0, .ref z.1, .int 0]))]) [2] rfl
        have hDc := hD.sub (ws' := [(g13, .inr (10, [.int 0, .ref z.1, .int 0]))]) [2] (by decide) rfl
        have hKc := hK.sub (tys' := []) [] rfl
        have hFc := va_free (wc := [(g13, .inr (10, [.int 0, .ref z.1, .int 0]))]) hD hS hA [2] rfl
        refine va_calli (va_runV (C := R_AL) (As := []) (rest := [.int x1]) ⟨hx, hb, hml, hown, hT⟩ (c_AL_size l dC dI z s.heap.size g13 0 (z.1) 0) ⟨callB_of 0 hT g_AL_size rfl rfl rfl (hT _ k_27) (hT _ k_212) (by decide +kernel) ⟨Nat.le_of_ble_eq_true rfl, Nat.le_of_ble_eq_true rfl⟩, (hT _ k_154), (hT _ k_155)⟩ (zz_preV hPc hKc hDc hZ hS hFc hK hP (ci := 10) (q0 := 2) (q := (R_AL, F_AL, 3)) rfl rfl) rfl rfl hl.1 rfl (lv_room (Nat.le_of_ble_eq_true rfl)) d_CL_pooled_23 ⟨Nat.le_of_ble_eq_true rfl, Nat.le_of_ble_eq_true rfl⟩) hS (fun q _ h => hFc q h) hFc (fun r_4 u9 t9 H1 locs ht9 hvm9 hw9 hB9 hz19 hk19 hS => ?_)
        obtain ⟨hP1, hK1, hD1⟩ := hB9
        rw [ht9] at hP1
        obtain ⟨hP, hD⟩ := va_join (wr := [(h0, .inr (0, [.ref ht, .ref ho, .int 0, .int 0, .ref hs, .ref hj, .ref hc, .ref hw, .ref hy, .ref hq])), (hw, .inr (9, [.ref hs, .ref hj, .ref hc, .ref g13, .ref g14, .ref g6, .null]))]) (w1 := [(g13, .inr (10, [.int 0, .ref z.1, .int 0]))]) hP hD [2] [0, 1] rfl rfl (by decide) (by decide) hk19 hFc hP1 hD1
        generalize H1 = H at hP hS ⊢
        have hP : va_P (dC, dI) cl_all [(h0, .inr (0, [.ref ht, .ref ho, .int 0, .int 0, .ref hs, .ref hj, .ref hc, .ref hw, .ref hy, .ref hq])), (hw, .inr (9, [.ref hs, .ref hj, .ref hc, .ref g13, .ref g14, .ref g6, .null])), (g13, .inr (10, [.int 0, .ref z.1, .int 0]))] H := hP
        have hD : va_D A [(h0, .inr (0, [.ref ht, .ref ho, .int 0, .int 0, .ref hs, .ref hj, .ref hc, .ref hw, .ref hy, .ref hq])), (hw, .inr (9, [.ref hs, .ref hj, .ref hc, .ref g13, .ref g14, .ref g6, .null])), (g13, .inr (10, [.int 0, .ref z.1, .int 0]))] := hD
        refine zz_i (v := 0) hw9 ?_
        refine lv_icmp_lt (tgt := 32) hx hb d_CL_pooled_26 (by decide) (fun h => absurd h (zz_nlt0 c_3)) (fun _ => ?_)
        refine lv_bipush (v := -2) hx hb d_CL_pooled_29 (by decide) ?_
        exact W.iret (v := (-2)) hx hb hr (fun t9 ht9 hW9 => ⟨⟨(-2), (), rfl, (by simp [an_pooled, c_1, c_2, c_3]), trivial⟩, hS.F ht9⟩) hS.2.2 d_CL_pooled_31
    · refine lv_iconst (v := -1) hx hb d_CL_pooled_9 (by decide) ?_
      exact W.iret (v := (-1)) hx hb hr (fun t9 ht9 hW9 => ⟨⟨(-1), (), rfl, (by simp [an_pooled, c_1, c_2]), trivial⟩, hS.F ht9⟩) hS.2.2 d_CL_pooled_10
set_option maxHeartbeats 4000000 in
set_option maxRecDepth 100000 in
theorem c_CL_octet (l : Launch) (dC : Nat → ClassId) (dI : Nat → Nat → Nat) (z : zT) (sz : Nat) (h0 ht ho hs hj hc hw hy hq b2 : Nat) (x1 : Int32)  : Met l y_CL_octet w_CL_octet ({ frames := 0, cells := 0, slots := 0, locals := 0 }) (va_Pc [.ref h0, .int x1] (fun U => U.heap.size = sz ∧ va_P (dC, dI) cl_all [(h0, .inr (0, [.ref ht, .ref ho, .int 0, .int 0, .ref hs, .ref hj, .ref hc, .ref hw, .ref hy, .ref hq])), (ho, .inr (1, [.ref b2, .int 0]))] U.heap ∧ va_K (dC, dI) cl_all [] U ∧ va_D (fun _ => True) [(h0, .inr (0, [.ref ht, .ref ho, .int 0, .int 0, .ref hs, .ref hj, .ref hc, .ref hw, .ref hy, .ref hq])), (ho, .inr (1, [.ref b2, .int 0]))] ∧ zz z (va_A [(h0, .inr (0, [.ref ht, .ref ho, .int 0, .int 0, .ref hs, .ref hj, .ref hc, .ref hw, .ref hy, .ref hq])), (ho, .inr (1, [.ref b2, .int 0]))] sz) U U.heap)) (va_Qi (fun (r : Int32) (_ : Unit) => r = an_octet x1) (fun _ t => True) (va_A [(h0, .inr (0, [.ref ht, .ref ho, .int 0, .int 0, .ref hs, .ref hj, .ref hc, .ref hw, .ref hy, .ref hq])), (ho, .inr (1, [.ref b2, .int 0]))] sz)) 0 0 (va_A [(h0, .inr (0, [.ref ht, .ref ho, .int 0, .int 0, .ref hs, .ref hj, .ref hc, .ref hw, .ref hy, .ref hq])), (ho, .inr (1, [.ref b2, .int 0]))] sz) := by
  refine Met.ofW (cc := b_CL_octet) (maxL := 2) (ret := (some (.int))) (by decide) rfl ?_
  intro p e s m args below meth c s₁ B hml hv
  obtain ⟨rfl, hsz, hP, hK, hD0, hZ⟩ := hv
  have hx := B.exec
  have hb := B.bytes
  have hr := B.returns
  have hT : ∀ w ∈ lw_all, w.before _ s = true := fun w h => atoms_spec (ws := w_CL_octet) B.pre w (List.mem_cons_of_mem _ h)
  have hown : s.vm.findClass R_CL = some m.cls := findClass_of_methodNamed B.named
  have hlocks := B.notSynchronized
  subst hsz
  have hD := hD0.self (sz := s.heap.size)
  generalize hAe : va_A [(h0, .inr (0, [.ref ht, .ref ho, .int 0, .int 0, .ref hs, .ref hj, .ref hc, .ref hw, .ref hy, .ref hq])), (ho, .inr (1, [.ref b2, .int 0]))] s.heap.size = A at hD hZ ⊢
  have hA : ∀ q : Nat, s.heap.size ≤ q → A q := fun q h => by rw [← hAe]; exact Or.inr h
  have hS : va_S A s.heap s.heap [] := va_S.rf
  have hl := lv_entry ([.ref h0, .int x1]) (n := 2) (Nat.le_of_ble_eq_true rfl)
  rw [lg_entry_eq]
  generalize (lg_sl ([.ref h0, .int x1]) ++ List.replicate (2 - (lg_sl ([.ref h0, .int x1])).length) Slot.unset).toArray = ls at hl ⊢
  have hl : lv_has ls 2 [(0, .ref h0), (1, .int x1)] := hl
  refine lv_iload_n hx hb d_CL_octet_0 rfl (lv_at hl 1 rfl) ?_
  refine lv_iconst (v := -1) hx hb d_CL_octet_1 (by decide) ?_
  refine lv_icmp_ne (tgt := 13) hx hb d_CL_octet_2 (by decide) (fun c_1 => ?_) (fun c_1 => ?_)
  · refine lv_iload_n hx hb d_CL_octet_13 rfl (lv_at hl 1 rfl) ?_
    refine lv_if_lt (tgt := 28) hx hb d_CL_octet_14 (by decide) (fun c_2 => ?_) (fun c_2 => ?_)
    · refine lv_bipush (v := -2) hx hb d_CL_octet_28 (by decide) ?_
      refine lv_goto (tgt := 46) hx hb d_CL_octet_30 (by decide) ?_
      exact W.iret (v := (-2)) hx hb hr (fun t9 ht9 hW9 => ⟨⟨(-2), (), rfl, (by simp [an_octet, c_1, c_2]), trivial⟩, hS.F ht9⟩) hS.2.2 d_CL_octet_46
    · refine lv_iload_n hx hb d_CL_octet_17 rfl (lv_at hl 1 rfl) ?_
      refine lv_aload_n hx hb d_CL_octet_18 rfl (lv_at hl 0 rfl) ?_
      refine va_get (D := (dC, dI)) (ci := 0) (v := .ref ho) (C := R_CL) (T := F_CL) (N := 10) hx hb hT i_CL hown hK hP 0 rfl rfl 1 (by decide) (hT _ k_168) (fun _ h9 => h9) rfl d_CL_octet_19 ?_
      refine va_get (D := (dC, dI)) (ci := 1) (v := .int 0) (C := R_Row) (T := F_Row) (N := 2) hx hb hT i_Row hown hK hP 1 rfl rfl 1 (by decide) (hT _ k_195) (fun _ h9 => h9) rfl d_CL_octet_22 ?_
      refine lv_icmp_lt (tgt := 33) hx hb d_CL_octet_25 (by decide) (fun h => absurd h (zz_nlt0 c_2)) (fun _ => ?_)
      refine lv_bipush (v := -2) hx hb d_CL_octet_28 (by decide) ?_
      refine lv_goto (tgt := 46) hx hb d_CL_octet_30 (by decide) ?_
      exact W.iret (v := (-2)) hx hb hr (fun t9 ht9 hW9 => ⟨⟨(-2), (), rfl, (by simp [an_octet, c_1, c_2]), trivial⟩, hS.F ht9⟩) hS.2.2 d_CL_octet_46
  · refine lv_aload_n hx hb d_CL_octet_5 rfl (lv_at hl 0 rfl) ?_
    refine va_get (D := (dC, dI)) (ci := 0) (v := .ref ho) (C := R_CL) (T := F_CL) (N := 10) hx hb hT i_CL hown hK hP 0 rfl rfl 1 (by decide) (hT _ k_168) (fun _ h9 => h9) rfl d_CL_octet_6 ?_
    refine va_get (D := (dC, dI)) (ci := 1) (v := .int 0) (C := R_Row) (T := F_Row) (N := 2) hx hb hT i_Row hown hK hP 1 rfl rfl 1 (by decide) (hT _ k_195) (fun _ h9 => h9) rfl d_CL_octet_9 ?_
    exact W.iret (v := 0) hx hb hr (fun t9 ht9 hW9 => ⟨⟨0, (), rfl, (by simp [an_octet, c_1]), trivial⟩, hS.F ht9⟩) hS.2.2 d_CL_octet_12
set_option maxHeartbeats 4000000 in
set_option maxRecDepth 100000 in
theorem c_CL_count (l : Launch) (dC : Nat → ClassId) (dI : Nat → Nat → Nat) (z : zT) (sz : Nat) (h0 ht ho hs hj hc hw hy hq b1 g1 g3 g4 g5 g6 g8 g9 g10 g2 g13 g14 : Nat) (x1 : Int32)  : Met l y_CL_count w_CL_count ({ frames := 2, cells := 0, slots := 0, locals := 43 }) (va_Pc [.ref h0, .int x1] (fun U => U.heap.size = sz ∧ va_P (dC, dI) cl_all [(h0, .inr (0, [.ref ht, .ref ho, .int 0, .int 0, .ref hs, .ref hj, .ref hc, .ref hw, .ref hy, .ref hq])), (ht, .inr (1, [.ref b1, .int 0])), (hc, .inr (5, [.ref hs, .ref hj, .ref g1, .ref g3, .int 1, .int 0, .ref g4, .ref g6, .ref g5, .ref g8, .int 0, .ref g9, .int 0, .ref g10, .int 0, .int 1, .null])), (g1, .inr (8, [.ref g2])), (g2, .inr (10, [.int 0, .ref z.1, .int 0])), (g4, .inr (10, [.int 0, .ref z.1, .int 0])), (hw, .inr (9, [.ref hs, .ref hj, .ref hc, .ref g13, .ref g14, .ref g6, .null])), (g13, .inr (10, [.int 0, .ref z.1, .int 0]))] U.heap ∧ va_K (dC, dI) cl_all [] U ∧ va_D (fun _ => True) [(h0, .inr (0, [.ref ht, .ref ho, .int 0, .int 0, .ref hs, .ref hj, .ref hc, .ref hw, .ref hy, .ref hq])), (ht, .inr (1, [.ref b1, .int 0])), (hc, .inr (5, [.ref hs, .ref hj, .ref g1, .ref g3, .int 1, .int 0, .ref g4, .ref g6, .ref g5, .ref g8, .int 0, .ref g9, .int 0, .ref g10, .int 0, .int 1, .null])), (g1, .inr (8, [.ref g2])), (g2, .inr (10, [.int 0, .ref z.1, .int 0])), (g4, .inr (10, [.int 0, .ref z.1, .int 0])), (hw, .inr (9, [.ref hs, .ref hj, .ref hc, .ref g13, .ref g14, .ref g6, .null])), (g13, .inr (10, [.int 0, .ref z.1, .int 0]))] ∧ zz z (va_A [(h0, .inr (0, [.ref ht, .ref ho, .int 0, .int 0, .ref hs, .ref hj, .ref hc, .ref hw, .ref hy, .ref hq])), (ht, .inr (1, [.ref b1, .int 0])), (hc, .inr (5, [.ref hs, .ref hj, .ref g1, .ref g3, .int 1, .int 0, .ref g4, .ref g6, .ref g5, .ref g8, .int 0, .ref g9, .int 0, .ref g10, .int 0, .int 1, .null])), (g1, .inr (8, [.ref g2])), (g2, .inr (10, [.int 0, .ref z.1, .int 0])), (g4, .inr (10, [.int 0, .ref z.1, .int 0])), (hw, .inr (9, [.ref hs, .ref hj, .ref hc, .ref g13, .ref g14, .ref g6, .null])), (g13, .inr (10, [.int 0, .ref z.1, .int 0]))] sz) U U.heap)) (va_Ql (fun (r : Int64) (_ : Unit) => r = an_count x1) (fun _ t => True) (va_A [(h0, .inr (0, [.ref ht, .ref ho, .int 0, .int 0, .ref hs, .ref hj, .ref hc, .ref hw, .ref hy, .ref hq])), (ht, .inr (1, [.ref b1, .int 0])), (hc, .inr (5, [.ref hs, .ref hj, .ref g1, .ref g3, .int 1, .int 0, .ref g4, .ref g6, .ref g5, .ref g8, .int 0, .ref g9, .int 0, .ref g10, .int 0, .int 1, .null])), (g1, .inr (8, [.ref g2])), (g2, .inr (10, [.int 0, .ref z.1, .int 0])), (g4, .inr (10, [.int 0, .ref z.1, .int 0])), (hw, .inr (9, [.ref hs, .ref hj, .ref hc, .ref g13, .ref g14, .ref g6, .null])), (g13, .inr (10, [.int 0, .ref z.1, .int 0]))] sz)) 0 0 (va_A [(h0, .inr (0, [.ref ht, .ref ho, .int 0, .int 0, .ref hs, .ref hj, .ref hc, .ref hw, .ref hy, .ref hq])), (ht, .inr (1, [.ref b1, .int 0])), (hc, .inr (5, [.ref hs, .ref hj, .ref g1, .ref g3, .int 1, .int 0, .ref g4, .ref g6, .ref g5, .ref g8, .int 0, .ref g9, .int 0, .ref g10, .int 0, .int 1, .null])), (g1, .inr (8, [.ref g2])), (g2, .inr (10, [.int 0, .ref z.1, .int 0])), (g4, .inr (10, [.int 0, .ref z.1, .int 0])), (hw, .inr (9, [.ref hs, .ref hj, .ref hc, .ref g13, .ref g14, .ref g6, .null])), (g13, .inr (10, [.int 0, .ref z.1, .int 0]))] sz) := by
  refine Met.ofW (cc := b_CL_count) (maxL := 2) (ret := (some (.long))) (by decide) rfl ?_
  intro p e s m args below meth c s₁ B hml hv
  obtain ⟨rfl, hsz, hP, hK, hD0, hZ⟩ := hv
  have hx := B.exec
  have hb := B.bytes
  have hr := B.returns
  have hT : ∀ w ∈ lw_all, w.before _ s = true := fun w h => atoms_spec (ws := w_CL_count) B.pre w (List.mem_cons_of_mem _ h)
  have hown : s.vm.findClass R_CL = some m.cls := findClass_of_methodNamed B.named
  have hlocks := B.notSynchronized
  subst hsz
  have hD := hD0.self (sz := s.heap.size)
  generalize hAe : va_A [(h0, .inr (0, [.ref ht, .ref ho, .int 0, .int 0, .ref hs, .ref hj, .ref hc, .ref hw, .ref hy, .ref hq])), (ht, .inr (1, [.ref b1, .int 0])), (hc, .inr (5, [.ref hs, .ref hj, .ref g1, .ref g3, .int 1, .int 0, .ref g4, .ref g6, .ref g5, .ref g8, .int 0, .ref g9, .int 0, .ref g10, .int 0, .int 1, .null])), (g1, .inr (8, [.ref g2])), (g2, .inr (10, [.int 0, .ref z.1, .int 0])), (g4, .inr (10, [.int 0, .ref z.1, .int 0])), (hw, .inr (9, [.ref hs, .ref hj, .ref hc, .ref g13, .ref g14, .ref g6, .null])), (g13, .inr (10, [.int 0, .ref z.1, .int 0]))] s.heap.size = A at hD hZ ⊢
  have hA : ∀ q : Nat, s.heap.size ≤ q → A q := fun q h => by rw [← hAe]; exact Or.inr h
  have hS : va_S A s.heap s.heap [] := va_S.rf
  have hl := lv_entry ([.ref h0, .int x1]) (n := 2) (Nat.le_of_ble_eq_true rfl)
  rw [lg_entry_eq]
  generalize (lg_sl ([.ref h0, .int x1]) ++ List.replicate (2 - (lg_sl ([.ref h0, .int x1])).length) Slot.unset).toArray = ls at hl ⊢
  have hl : lv_has ls 2 [(0, .ref h0), (1, .int x1)] := hl
  refine lv_iload_n hx hb d_CL_count_0 rfl (lv_at hl 1 rfl) ?_
  by_cases c_1 : x1 = 0
  · subst c_1
    refine lv_tableIn (tgt := 44) hx hb d_CL_count_1 (by decide) (by decide) rfl (by decide) ?_
    refine lv_aload_n hx hb d_CL_count_44 rfl (lv_at hl 0 rfl) ?_
    refine va_get (D := (dC, dI)) (ci := 0) (v := .ref hc) (C := R_CL) (T := F_CL) (N := 10) hx hb hT i_CL hown hK hP 0 rfl rfl 6 (by decide) (hT _ k_184) (fun _ h9 => h9) rfl d_CL_count_45 ?_
    refine va_get (D := (dC, dI)) (ci := 5) (v := .int 1) (C := R_Chain) (T := F_Chain) (N := 17) hx hb hT i_Chain hown hK hP 2 rfl rfl 4 (by decide) (hT _ k_237) (fun _ h9 => h9) rfl d_CL_count_48 ?_
    refine lv_i2l (v := 1) hx hb d_CL_count_51 (by decide) ?_
    exact W.lret (v := 1) hx hb hr (fun t9 ht9 hW9 => ⟨⟨1, (), rfl, (by simp [an_count]), trivial⟩, hS.F ht9⟩) hS.2.2 d_CL_count_52
  · by_cases c_2 : x1 = 1
    · subst c_2
      refine lv_tableIn (tgt := 53) hx hb d_CL_count_1 (by decide) (by decide) rfl (by decide) ?_
      refine lv_aload_n hx hb d_CL_count_53 rfl (lv_at hl 0 rfl) ?_
      refine va_get (D := (dC, dI)) (ci := 0) (v := .ref hc) (C := R_CL) (T := F_CL) (N := 10) hx hb hT i_CL hown hK hP 0 rfl rfl 6 (by decide) (hT _ k_184) (fun _ h9 => h9) rfl d_CL_count_54 ?_
      refine va_get (D := (dC, dI)) (ci := 5) (v := .ref g4) (C := R_Chain) (T := F_Chain) (N := 17) hx hb hT i_Chain hown hK hP 2 rfl rfl 6 (by decide) (hT _ k_238) (fun _ h9 => h9) rfl d_CL_count_57 ?_
      have hPc := hP.sub (ws' := [(g4, .inr (10, [.int 0, .ref z.1, .int 0]))]) [5] rfl
      have hDc := hD.sub (ws' := [(g4, .inr (10, [.int 0, .ref z.1, .int 0]))]) [5] (by decide) rfl
      have hKc := hK.sub (tys' := []) [] rfl
      have hFc := va_free (wc := [(g4, .inr (10, [.int 0, .ref z.1, .int 0]))]) hD hS hA [5] rfl
      refine va_calli (va_runV (C := R_AL) (As := []) (rest := []) ⟨hx, hb, hml, hown, hT⟩ (c_AL_size l dC dI z s.heap.size g4 0 (z.1) 0) ⟨callB_of 0 hT g_AL_size rfl rfl rfl (hT _ k_27) (hT _ k_212) (by decide +kernel) ⟨Nat.le_of_ble_eq_true rfl, Nat.le_of_ble_eq_true rfl⟩, (hT _ k_154), (hT _ k_155)⟩ (zz_preV hPc hKc hDc hZ hS hFc hK hP (ci := 10) (q0 := 5) (q := (R_AL, F_AL, 3)) rfl rfl) rfl rfl hl.1 rfl (lv_room (Nat.le_of_ble_eq_true rfl)) d_CL_count_60 ⟨Nat.le_of_ble_eq_true rfl, Nat.le_of_ble_eq_true rfl⟩) hS (fun q _ h => hFc q h) hFc (fun r_3 u9 t9 H1 locs ht9 hvm9 hw9 hB9 hz19 hk19 hS => ?_)
      obtain ⟨hP1, hK1, hD1⟩ := hB9
      rw [ht9] at hP1
      obtain ⟨hP, hD⟩ := va_join (wr := [(h0, .inr (0, [.ref ht, .ref ho, .int 0, .int 0, .ref hs, .ref hj, .ref hc, .ref hw, .ref hy, .ref hq])), (ht, .inr (1, [.ref b1, .int 0])), (hc, .inr (5, [.ref hs, .ref hj, .ref g1, .ref g3, .int 1, .int 0, .ref g4, .ref g6, .ref g5, .ref g8, .int 0, .ref g9, .int 0, .ref g10, .int 0, .int 1, .null])), (g1, .inr (8, [.ref g2])), (g2, .inr (10, [.int 0, .ref z.1, .int 0])), (hw, .inr (9, [.ref hs, .ref hj, .ref hc, .ref g13, .ref g14, .ref g6, .null])), (g13, .inr (10, [.int 0, .ref z.1, .int 0]))]) (w1 := [(g4, .inr (10, [.int 0, .ref z.1, .int 0]))]) hP hD [5] [0, 1, 2, 3, 4, 6, 7] rfl rfl (by decide) (by decide) hk19 hFc hP1 hD1
      generalize H1 = H at hP hS ⊢
      have hP : va_P (dC, dI) cl_all [(h0, .inr (0, [.ref ht, .ref ho, .int 0, .int 0, .ref hs, .ref hj, .ref hc, .ref hw, .ref hy, .ref hq])), (ht, .inr (1, [.ref b1, .int 0])), (hc, .inr (5, [.ref hs, .ref hj, .ref g1, .ref g3, .int 1, .int 0, .ref g4, .ref g6, .ref g5, .ref g8, .int 0, .ref g9, .int 0, .ref g10, .int 0, .int 1, .null])), (g1, .inr (8, [.ref g2])), (g2, .inr (10, [.int 0, .ref z.1, .int 0])), (hw, .inr (9, [.ref hs, .ref hj, .ref hc, .ref g13, .ref g14, .ref g6, .null])), (g13, .inr (10, [.int 0, .ref z.1, .int 0])), (g4, .inr (10, [.int 0, .ref z.1, .int 0]))] H := hP
      have hD : va_D A [(h0, .inr (0, [.ref ht, .ref ho, .int 0, .int 0, .ref hs, .ref hj, .ref hc, .ref hw, .ref hy, .ref hq])), (ht, .inr (1, [.ref b1, .int 0])), (hc, .inr (5, [.ref hs, .ref hj, .ref g1, .ref g3, .int 1, .int 0, .ref g4, .ref g6, .ref g5, .ref g8, .int 0, .ref g9, .int 0, .ref g10, .int 0, .int 1, .null])), (g1, .inr (8, [.ref g2])), (g2, .inr (10, [.int 0, .ref z.1, .int 0])), (hw, .inr (9, [.ref hs, .ref hj, .ref hc, .ref g13, .ref g14, .ref g6, .null])), (g13, .inr (10, [.int 0, .ref z.1, .int 0])), (g4, .inr (10, [.int 0, .ref z.1, .int 0]))] := hD
      refine zz_i (v := 0) hw9 ?_
      refine lv_i2l (v := 0) hx hb d_CL_count_63 (by decide) ?_
      exact W.lret (v := 0) hx hb hr (fun t9 ht9 hW9 => ⟨⟨0, (), rfl, (by simp [an_count]), trivial⟩, hS.F ht9⟩) hS.2.2 d_CL_count_64
    · by_cases c_4 : x1 = 2
      · subst c_4
        refine lv_tableIn (tgt := 65) hx hb d_CL_count_1 (by decide) (by decide) rfl (by decide) ?_
        refine lv_aload_n hx hb d_CL_count_65 rfl (lv_at hl 0 rfl) ?_
        refine va_get (D := (dC, dI)) (ci := 0) (v := .ref hc) (C := R_CL) (T := F_CL) (N := 10) hx hb hT i_CL hown hK hP 0 rfl rfl 6 (by decide) (hT _ k_184) (fun _ h9 => h9) rfl d_CL_count_66 ?_
        refine va_get (D := (dC, dI)) (ci := 5) (v := .ref g1) (C := R_Chain) (T := F_Chain) (N := 17) hx hb hT i_Chain hown hK hP 2 rfl rfl 2 (by decide) (hT _ k_210) (fun _ h9 => h9) rfl d_CL_count_69 ?_
        refine va_get (D := (dC, dI)) (ci := 8) (v := .ref g2) (C := R_Coins) (T := F_Coins) (N := 1) hx hb hT i_Coins hown hK hP 3 rfl rfl 0 (by decide) (hT _ k_211) (fun _ h9 => h9) rfl d_CL_count_72 ?_
        have hPc := hP.sub (ws' := [(g2, .inr (10, [.int 0, .ref z.1, .int 0]))]) [4] rfl
        have hDc := hD.sub (ws' := [(g2, .inr (10, [.int 0, .ref z.1, .int 0]))]) [4] (by decide) rfl
        have hKc := hK.sub (tys' := []) [] rfl
        have hFc := va_free (wc := [(g2, .inr (10, [.int 0, .ref z.1, .int 0]))]) hD hS hA [4] rfl
        refine va_calli (va_runV (C := R_AL) (As := []) (rest := []) ⟨hx, hb, hml, hown, hT⟩ (c_AL_size l dC dI z s.heap.size g2 0 (z.1) 0) ⟨callB_of 0 hT g_AL_size rfl rfl rfl (hT _ k_27) (hT _ k_212) (by decide +kernel) ⟨Nat.le_of_ble_eq_true rfl, Nat.le_of_ble_eq_true rfl⟩, (hT _ k_154), (hT _ k_155)⟩ (zz_preV hPc hKc hDc hZ hS hFc hK hP (ci := 10) (q0 := 4) (q := (R_AL, F_AL, 3)) rfl rfl) rfl rfl hl.1 rfl (lv_room (Nat.le_of_ble_eq_true rfl)) d_CL_count_75 ⟨Nat.le_of_ble_eq_true rfl, Nat.le_of_ble_eq_true rfl⟩) hS (fun q _ h => hFc q h) hFc (fun r_5 u9 t9 H1 locs ht9 hvm9 hw9 hB9 hz19 hk19 hS => ?_)
        obtain ⟨hP1, hK1, hD1⟩ := hB9
        rw [ht9] at hP1
        obtain ⟨hP, hD⟩ := va_join (wr := [(h0, .inr (0, [.ref ht, .ref ho, .int 0, .int 0, .ref hs, .ref hj, .ref hc, .ref hw, .ref hy, .ref hq])), (ht, .inr (1, [.ref b1, .int 0])), (hc, .inr (5, [.ref hs, .ref hj, .ref g1, .ref g3, .int 1, .int 0, .ref g4, .ref g6, .ref g5, .ref g8, .int 0, .ref g9, .int 0, .ref g10, .int 0, .int 1, .null])), (g1, .inr (8, [.ref g2])), (g4, .inr (10, [.int 0, .ref z.1, .int 0])), (hw, .inr (9, [.ref hs, .ref hj, .ref hc, .ref g13, .ref g14, .ref g6, .null])), (g13, .inr (10, [.int 0, .ref z.1, .int 0]))]) (w1 := [(g2, .inr (10, [.int 0, .ref z.1, .int 0]))]) hP hD [4] [0, 1, 2, 3, 5, 6, 7] rfl rfl (by decide) (by decide) hk19 hFc hP1 hD1
        generalize H1 = H at hP hS ⊢
        have hP : va_P (dC, dI) cl_all [(h0, .inr (0, [.ref ht, .ref ho, .int 0, .int 0, .ref hs, .ref hj, .ref hc, .ref hw, .ref hy, .ref hq])), (ht, .inr (1, [.ref b1, .int 0])), (hc, .inr (5, [.ref hs, .ref hj, .ref g1, .ref g3, .int 1, .int 0, .ref g4, .ref g6, .ref g5, .ref g8, .int 0, .ref g9, .int 0, .ref g10, .int 0, .int 1, .null])), (g1, .inr (8, [.ref g2])), (g4, .inr (10, [.int 0, .ref z.1, .int 0])), (hw, .inr (9, [.ref hs, .ref hj, .ref hc, .ref g13, .ref g14, .ref g6, .null])), (g13, .inr (10, [.int 0, .ref z.1, .int 0])), (g2, .inr (10, [.int 0, .ref z.1, .int 0]))] H := hP
        have hD : va_D A [(h0, .inr (0, [.ref ht, .ref ho, .int 0, .int 0, .ref hs, .ref hj, .ref hc, .ref hw, .ref hy, .ref hq])), (ht, .inr (1, [.ref b1, .int 0])), (hc, .inr (5, [.ref hs, .ref hj, .ref g1, .ref g3, .int 1, .int 0, .ref g4, .ref g6, .ref g5, .ref g8, .int 0, .ref g9, .int 0, .ref g10, .int 0, .int 1, .null])), (g1, .inr (8, [.ref g2])), (g4, .inr (10, [.int 0, .ref z.1, .int 0])), (hw, .inr (9, [.ref hs, .ref hj, .ref hc, .ref g13, .ref g14, .ref g6, .null])), (g13, .inr (10, [.int 0, .ref z.1, .int 0])), (g2, .inr (10, [.int 0, .ref z.1, .int 0]))] := hD
        refine zz_i (v := 0) hw9 ?_
        refine lv_i2l (v := 0) hx hb d_CL_count_78 (by decide) ?_
        exact W.lret (v := 0) hx hb hr (fun t9 ht9 hW9 => ⟨⟨0, (), rfl, (by simp [an_count]), trivial⟩, hS.F ht9⟩) hS.2.2 d_CL_count_79
      · by_cases c_6 : x1 = 3
        · subst c_6
          refine lv_tableIn (tgt := 80) hx hb d_CL_count_1 (by decide) (by decide) rfl (by decide) ?_
          refine lv_aload_n hx hb d_CL_count_80 rfl (lv_at hl 0 rfl) ?_
          refine va_get (D := (dC, dI)) (ci := 0) (v := .ref hc) (C := R_CL) (T := F_CL) (N := 10) hx hb hT i_CL hown hK hP 0 rfl rfl 6 (by decide) (hT _ k_184) (fun _ h9 => h9) rfl d_CL_count_81 ?_
          refine va_get (D := (dC, dI)) (ci := 5) (v := .ref g1) (C := R_Chain) (T := F_Chain) (N := 17) hx hb hT i_Chain hown hK hP 2 rfl rfl 2 (by decide) (hT _ k_210) (fun _ h9 => h9) rfl d_CL_count_84 ?_
          have hPc := hP.sub (ws' := [(g1, .inr (8, [.ref g2])), (g2, .inr (10, [.int 0, .ref z.1, .int 0]))]) [3, 4] rfl
          have hDc := hD.sub (ws' := [(g1, .inr (8, [.ref g2])), (g2, .inr (10, [.int 0, .ref z.1, .int 0]))]) [3, 4] (by decide) rfl
          have hKc := hK.sub (tys' := []) [] rfl
          have hFc := va_free (wc := [(g1, .inr (8, [.ref g2])), (g2, .inr (10, [.int 0, .ref z.1, .int 0]))]) hD hS hA [3, 4] rfl
          refine va_calll (va_runV (C := R_Coins) (As := []) (rest := []) ⟨hx, hb, hml, hown, hT⟩ (c_Coins_total l dC dI z s.heap.size g1 g2) ⟨callB_of 0 hT g_Coins_total rfl rfl rfl (hT _ k_71) (hT _ k_239) (by decide +kernel) ⟨Nat.le_of_ble_eq_true rfl, Nat.le_of_ble_eq_true rfl⟩, (hT _ k_240), (hT _ k_241)⟩ (zz_preV hPc hKc hDc hZ hS hFc hK hP (ci := 8) (q0 := 3) (q := (R_Coins, F_Coins, 1)) rfl rfl) rfl rfl hl.1 rfl (lv_room (Nat.le_of_ble_eq_true rfl)) d_CL_count_87 ⟨Nat.le_of_ble_eq_true rfl, Nat.le_of_ble_eq_true rfl⟩) hS (fun q _ h => hFc q h) hFc (fun r_7 u9 t9 H1 locs ht9 hvm9 hw9 hB9 hz19 hk19 hS => ?_)
          have hP1 : va_P (dC, dI) cl_all [] H1 := zz_P0
          have hD1 : va_D (va_A [(g1, .inr (8, [.ref g2])), (g2, .inr (10, [.int 0, .ref z.1, .int 0]))] s.heap.size) [] := zz_D0
          obtain ⟨hP, hD⟩ := va_join (wr := [(h0, .inr (0, [.ref ht, .ref ho, .int 0, .int 0, .ref hs, .ref hj, .ref hc, .ref hw, .ref hy, .ref hq])), (ht, .inr (1, [.ref b1, .int 0])), (hc, .inr (5, [.ref hs, .ref hj, .ref g1, .ref g3, .int 1, .int 0, .ref g4, .ref g6, .ref g5, .ref g8, .int 0, .ref g9, .int 0, .ref g10, .int 0, .int 1, .null])), (g4, .inr (10, [.int 0, .ref z.1, .int 0])), (hw, .inr (9, [.ref hs, .ref hj, .ref hc, .ref g13, .ref g14, .ref g6, .null])), (g13, .inr (10, [.int 0, .ref z.1, .int 0]))]) (w1 := []) hP hD [3, 4] [0, 1, 2, 5, 6, 7] rfl rfl (by decide) (by decide) hk19 hFc hP1 hD1
          generalize H1 = H at hP hS ⊢
          have hP : va_P (dC, dI) cl_all [(h0, .inr (0, [.ref ht, .ref ho, .int 0, .int 0, .ref hs, .ref hj, .ref hc, .ref hw, .ref hy, .ref hq])), (ht, .inr (1, [.ref b1, .int 0])), (hc, .inr (5, [.ref hs, .ref hj, .ref g1, .ref g3, .int 1, .int 0, .ref g4, .ref g6, .ref g5, .ref g8, .int 0, .ref g9, .int 0, .ref g10, .int 0, .int 1, .null])), (g4, .inr (10, [.int 0, .ref z.1, .int 0])), (hw, .inr (9, [.ref hs, .ref hj, .ref hc, .ref g13, .ref g14, .ref g6, .null])), (g13, .inr (10, [.int 0, .ref z.1, .int 0]))] H := hP
          have hD : va_D A [(h0, .inr (0, [.ref ht, .ref ho, .int 0, .int 0, .ref hs, .ref hj, .ref hc, .ref hw, .ref hy, .ref hq])), (ht, .inr (1, [.ref b1, .int 0])), (hc, .inr (5, [.ref hs, .ref hj, .ref g1, .ref g3, .int 1, .int 0, .ref g4, .ref g6, .ref g5, .ref g8, .int 0, .ref g9, .int 0, .ref g10, .int 0, .int 1, .null])), (g4, .inr (10, [.int 0, .ref z.1, .int 0])), (hw, .inr (9, [.ref hs, .ref hj, .ref hc, .ref g13, .ref g14, .ref g6, .null])), (g13, .inr (10, [.int 0, .ref z.1, .int 0]))] := hD
          refine zz_l (v := 0) hw9 ?_
          exact W.lret (v := 0) hx hb hr (fun t9 ht9 hW9 => ⟨⟨0, (), rfl, (by simp [an_count]), trivial⟩, hS.F ht9⟩) hS.2.2 d_CL_count_90
        · by_cases c_8 : x1 = 4
          · subst c_8
            refine lv_tableIn (tgt := 91) hx hb d_CL_count_1 (by decide) (by decide) rfl (by decide) ?_
            refine lv_aload_n hx hb d_CL_count_91 rfl (lv_at hl 0 rfl) ?_
            refine va_get (D := (dC, dI)) (ci := 0) (v := .ref hw) (C := R_CL) (T := F_CL) (N := 10) hx hb hT i_CL hown hK hP 0 rfl rfl 7 (by decide) (hT _ k_190) (fun _ h9 => h9) rfl d_CL_count_92 ?_
            refine va_get (D := (dC, dI)) (ci := 9) (v := .ref g13) (C := R_Pool) (T := F_Pool) (N := 7) hx hb hT i_Pool hown hK hP 6 rfl rfl 3 (by decide) (hT _ k_236) (fun _ h9 => h9) rfl d_CL_count_95 ?_
            have hPc := hP.sub (ws' := [(g13, .inr (10, [.int 0, .ref z.1, .int 0]))]) [7] rfl
            have hDc := hD.sub (ws' := [(g13, .inr (10, [.int 0, .ref z.1, .int 0]))]) [7] (by decide) rfl
            have hKc := hK.sub (tys' := []) [] rfl
            have hFc := va_free (wc := [(g13, .inr (10, [.int 0, .ref z.1, .int 0]))]) hD hS hA [7] rfl
            refine va_calli (va_runV (C := R_AL) (As := []) (rest := []) ⟨hx, hb, hml, hown, hT⟩ (c_AL_size l dC dI z s.heap.size g13 0 (z.1) 0) ⟨callB_of 0 hT g_AL_size rfl rfl rfl (hT _ k_27) (hT _ k_212) (by decide +kernel) ⟨Nat.le_of_ble_eq_true rfl, Nat.le_of_ble_eq_true rfl⟩, (hT _ k_154), (hT _ k_155)⟩ (zz_preV hPc hKc hDc hZ hS hFc hK hP (ci := 10) (q0 := 7) (q := (R_AL, F_AL, 3)) rfl rfl) rfl rfl hl.1 rfl (lv_room (Nat.le_of_ble_eq_true rfl)) d_CL_count_98 ⟨Nat.le_of_ble_eq_true rfl, Nat.le_of_ble_eq_true rfl⟩) hS (fun q _ h => hFc q h) hFc (fun r_9 u9 t9 H1 locs ht9 hvm9 hw9 hB9 hz19 hk19 hS => ?_)
            obtain ⟨hP1, hK1, hD1⟩ := hB9
            rw [ht9] at hP1
            obtain ⟨hP, hD⟩ := va_join (wr := [(h0, .inr (0, [.ref ht, .ref ho, .int 0, .int 0, .ref hs, .ref hj, .ref hc, .ref hw, .ref hy, .ref hq])), (ht, .inr (1, [.ref b1, .int 0])), (hc, .inr (5, [.ref hs, .ref hj, .ref g1, .ref g3, .int 1, .int 0, .ref g4, .ref g6, .ref g5, .ref g8, .int 0, .ref g9, .int 0, .ref g10, .int 0, .int 1, .null])), (g1, .inr (8, [.ref g2])), (g2, .inr (10, [.int 0, .ref z.1, .int 0])), (g4, .inr (10, [.int 0, .ref z.1, .int 0])), (hw, .inr (9, [.ref hs, .ref hj, .ref hc, .ref g13, .ref g14, .ref g6, .null]))]) (w1 := [(g13, .inr (10, [.int 0, .ref z.1, .int 0]))]) hP hD [7] [0, 1, 2, 3, 4, 5, 6] rfl rfl (by decide) (by decide) hk19 hFc hP1 hD1
            generalize H1 = H at hP hS ⊢
            have hP : va_P (dC, dI) cl_all [(h0, .inr (0, [.ref ht, .ref ho, .int 0, .int 0, .ref hs, .ref hj, .ref hc, .ref hw, .ref hy, .ref hq])), (ht, .inr (1, [.ref b1, .int 0])), (hc, .inr (5, [.ref hs, .ref hj, .ref g1, .ref g3, .int 1, .int 0, .ref g4, .ref g6, .ref g5, .ref g8, .int 0, .ref g9, .int 0, .ref g10, .int 0, .int 1, .null])), (g1, .inr (8, [.ref g2])), (g2, .inr (10, [.int 0, .ref z.1, .int 0])), (g4, .inr (10, [.int 0, .ref z.1, .int 0])), (hw, .inr (9, [.ref hs, .ref hj, .ref hc, .ref g13, .ref g14, .ref g6, .null])), (g13, .inr (10, [.int 0, .ref z.1, .int 0]))] H := hP
            have hD : va_D A [(h0, .inr (0, [.ref ht, .ref ho, .int 0, .int 0, .ref hs, .ref hj, .ref hc, .ref hw, .ref hy, .ref hq])), (ht, .inr (1, [.ref b1, .int 0])), (hc, .inr (5, [.ref hs, .ref hj, .ref g1, .ref g3, .int 1, .int 0, .ref g4, .ref g6, .ref g5, .ref g8, .int 0, .ref g9, .int 0, .ref g10, .int 0, .int 1, .null])), (g1, .inr (8, [.ref g2])), (g2, .inr (10, [.int 0, .ref z.1, .int 0])), (g4, .inr (10, [.int 0, .ref z.1, .int 0])), (hw, .inr (9, [.ref hs, .ref hj, .ref hc, .ref g13, .ref g14, .ref g6, .null])), (g13, .inr (10, [.int 0, .ref z.1, .int 0]))] := hD
            refine zz_i (v := 0) hw9 ?_
            refine lv_i2l (v := 0) hx hb d_CL_count_101 (by decide) ?_
            exact W.lret (v := 0) hx hb hr (fun t9 ht9 hW9 => ⟨⟨0, (), rfl, (by simp [an_count]), trivial⟩, hS.F ht9⟩) hS.2.2 d_CL_count_102
          · by_cases c_10 : x1 = 5
            · subst c_10
              refine lv_tableIn (tgt := 103) hx hb d_CL_count_1 (by decide) (by decide) rfl (by decide) ?_
              refine lv_aload_n hx hb d_CL_count_103 rfl (lv_at hl 0 rfl) ?_
              refine va_get (D := (dC, dI)) (ci := 0) (v := .ref hc) (C := R_CL) (T := F_CL) (N := 10) hx hb hT i_CL hown hK hP 0 rfl rfl 6 (by decide) (hT _ k_184) (fun _ h9 => h9) rfl d_CL_count_104 ?_
              refine va_get (D := (dC, dI)) (ci := 5) (v := .int 0) (C := R_Chain) (T := F_Chain) (N := 17) hx hb hT i_Chain hown hK hP 2 rfl rfl 5 (by decide) (hT _ k_242) (fun _ h9 => h9) rfl d_CL_count_107 ?_
              refine lv_i2l (v := 0) hx hb d_CL_count_110 (by decide) ?_
              exact W.lret (v := 0) hx hb hr (fun t9 ht9 hW9 => ⟨⟨0, (), rfl, (by simp [an_count]), trivial⟩, hS.F ht9⟩) hS.2.2 d_CL_count_111
            · by_cases c_11 : x1 = 6
              · subst c_11
                refine lv_tableIn (tgt := 112) hx hb d_CL_count_1 (by decide) (by decide) rfl (by decide) ?_
                refine lv_aload_n hx hb d_CL_count_112 rfl (lv_at hl 0 rfl) ?_
                refine va_get (D := (dC, dI)) (ci := 0) (v := .ref ht) (C := R_CL) (T := F_CL) (N := 10) hx hb hT i_CL hown hK hP 0 rfl rfl 0 (by decide) (hT _ k_167) (fun _ h9 => h9) rfl d_CL_count_113 ?_
                refine va_get (D := (dC, dI)) (ci := 1) (v := .int 0) (C := R_Row) (T := F_Row) (N := 2) hx hb hT i_Row hown hK hP 1 rfl rfl 1 (by decide) (hT _ k_195) (fun _ h9 => h9) rfl d_CL_count_116 ?_
                refine lv_i2l (v := 0) hx hb d_CL_count_119 (by decide) ?_
                exact W.lret (v := 0) hx hb hr (fun t9 ht9 hW9 => ⟨⟨0, (), rfl, (by simp [an_count]), trivial⟩, hS.F ht9⟩) hS.2.2 d_CL_count_120
              · have hsw : (x1 : Int32).toInt < 0 ∨ 6 < (x1 : Int32).toInt := zz_out7 c_1 c_2 c_4 c_6 c_8 c_10 c_11
                refine lv_tableOut (tgt := 121) hx hb d_CL_count_1 hsw (by decide) ?_
                refine lv_ldc2 hx hb hown (hT _ k_227) d_CL_count_121 ?_
                exact W.lret (v := (-1)) hx hb hr (fun t9 ht9 hW9 => ⟨⟨(-1), (), rfl, (by simp [an_count, c_1, c_2, c_4, c_6, c_8, c_10, c_11]), trivial⟩, hS.F ht9⟩) hS.2.2 d_CL_count_124
