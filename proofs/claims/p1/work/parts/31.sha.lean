set_option maxHeartbeats 4000000 in
set_option maxRecDepth 100000 in
/-- load: the words of a block of 17 bytes -/
theorem c_Sha_load17 (l : Launch) (dC : Nat → ClassId) (dI : Nat → Nat → Nat) (z : zT) (sz : Nat) (h0 h1 h2 h3 : Nat) (e1 e3 : ClassId) (N : Nat) (f1 f3 : Nat → Int32) (hN : 94 ≤ N) (hM : N < 2 ^ 31) : Met l y_Sha_load w_Sha_load ({ frames := 0, cells := 0, slots := 0, locals := 0 }) (va_Pc [.ref h0, .ref h3, .int 77, .int 17, .int 0] (fun U => U.heap.size = sz ∧ va_P (dC, dI) cl_all [(h0, .inr (2, [.ref h1, .ref h2])), (h1, .inl (e1, 64, .inl f1)), (h3, .inl (e3, N, .inl f3))] U.heap ∧ va_K (dC, dI) cl_all [(e1, .int), (e3, .byte)] U ∧ va_D (fun _ => True) [(h0, .inr (2, [.ref h1, .ref h2])), (h1, .inl (e1, 64, .inl f1)), (h3, .inl (e3, N, .inl f3))] ∧ zz z (va_A [(h0, .inr (2, [.ref h1, .ref h2])), (h1, .inl (e1, 64, .inl f1)), (h3, .inl (e3, N, .inl f3))] sz) U U.heap)) (va_Qv (fun _ : Unit => True) (fun _ t => ∃ (g1 : Nat → Int32), va_P (dC, dI) cl_all [(h0, .inr (2, [.ref h1, .ref h2])), (h1, .inl (e1, 64, .inl g1)), (h3, .inl (e3, N, .inl f3))] t.heap ∧ va_K (dC, dI) cl_all [] t ∧ va_D (va_A [(h0, .inr (2, [.ref h1, .ref h2])), (h1, .inl (e1, 64, .inl f1)), (h3, .inl (e3, N, .inl f3))] sz) [(h0, .inr (2, [.ref h1, .ref h2])), (h1, .inl (e1, 64, .inl g1)), (h3, .inl (e3, N, .inl f3))]) (va_A [(h0, .inr (2, [.ref h1, .ref h2])), (h1, .inl (e1, 64, .inl f1)), (h3, .inl (e3, N, .inl f3))] sz)) 0 0 (va_A [(h0, .inr (2, [.ref h1, .ref h2])), (h1, .inl (e1, 64, .inl f1)), (h3, .inl (e3, N, .inl f3))] sz) := by
  refine Met.ofW (cc := b_Sha_load) (maxL := 8) (ret := none) (by decide) rfl ?_
  intro p e s m args below meth c s₁ B hml hv
  obtain ⟨rfl, hsz, hP, hK, hD0, hZ⟩ := hv
  have hx := B.exec
  have hb := B.bytes
  have hr := B.returns
  have hT : ∀ w ∈ lw_all, w.before _ s = true := fun w h => atoms_spec (ws := w_Sha_load) B.pre w (List.mem_cons_of_mem _ h)
  have hown : s.vm.findClass R_Sha = some m.cls := findClass_of_methodNamed B.named
  have hlocks := B.notSynchronized
  subst hsz
  have hD := hD0.self (sz := s.heap.size)
  generalize hAe : va_A [(h0, .inr (2, [.ref h1, .ref h2])), (h1, .inl (e1, 64, .inl f1)), (h3, .inl (e3, N, .inl f3))] s.heap.size = A at hD hZ ⊢
  have hA : ∀ q : Nat, s.heap.size ≤ q → A q := fun q h => by rw [← hAe]; exact Or.inr h
  have hS : va_S A s.heap s.heap [] := va_S.rf
  have hl := lv_entry ([.ref h0, .ref h3, .int 77, .int 17, .int 0]) (n := 8) (Nat.le_of_ble_eq_true rfl)
  rw [lg_entry_eq]
  generalize (lg_sl ([.ref h0, .ref h3, .int 77, .int 17, .int 0]) ++ List.replicate (8 - (lg_sl ([.ref h0, .ref h3, .int 77, .int 17, .int 0])).length) Slot.unset).toArray = ls at hl ⊢
  have hl : lv_has ls 8 [(0, .ref h0), (1, .ref h3), (2, .int 77), (3, .int 17), (4, .int 0)] := hl
  refine lv_iconst (v := 0) hx hb d_Sha_load_0 (by decide) ?_
  refine lv_istore (lv' := [(5, .int 0), (0, .ref h0), (1, .ref h3), (2, .int 77), (3, .int 17), (4, .int 0)]) hx hb d_Sha_load_1 hl (by decide) rfl (fun ls hl => ?_)
  have lp3_1 : ∀ (Q : State → Prop) (n i : Nat) (w : Nat → Int32) (H : Heap) (locs : List Loc) (ls : Array Slot), i + n = 64 → 0 ≤ i → va_P (dC, dI) cl_all [(h0, .inr (2, [.ref h1, .ref h2])), (h1, .inl (e1, 64, .inl w)), (h3, .inl (e3, N, .inl f3))] H → va_D A [(h0, .inr (2, [.ref h1, .ref h2])), (h1, .inl (e1, 64, .inl w)), (h3, .inl (e3, N, .inl f3))] → va_S A s.heap H locs → lv_has ls 8 [(0, .ref h0), (1, .ref h3), (2, .int 77), (3, .int 17), (4, .int 0), (5, .int (nI i))] → (∀ (w : Nat → Int32) (H : Heap) (locs : List Loc) (ls : Array Slot), va_P (dC, dI) cl_all [(h0, .inr (2, [.ref h1, .ref h2])), (h1, .inl (e1, 64, .inl w)), (h3, .inl (e3, N, .inl f3))] H → va_D A [(h0, .inr (2, [.ref h1, .ref h2])), (h1, .inl (e1, 64, .inl w)), (h3, .inl (e3, N, .inl f3))] → va_S A s.heap H locs → lv_has ls 8 [(0, .ref h0), (1, .ref h3), (2, .int 77), (3, .int 17), (4, .int 0), (5, .int (nI 64))] → W p l e (headSpec w_Sha_load ({ frames := 0, cells := 0, slots := 0, locals := 0 })).room s m ([.ref h0, .ref h3, .int 77, .int 17, .int 0] : List Value).toArray below meth c H locs 0 0 Q (F0 m 81 ls [])) → W p l e (headSpec w_Sha_load ({ frames := 0, cells := 0, slots := 0, locals := 0 })).room s m ([.ref h0, .ref h3, .int 77, .int 17, .int 0] : List Value).toArray below meth c H locs 0 0 Q (F0 m 3 ls []) := by
    intro Q n
    induction n with
    | zero =>
      intro i w H locs ls hi_3 ha_3  hP hD hS hl kx_3
      have hi_3 : i = 64 := by omega
      subst hi_3
      refine lv_iload hx hb d_Sha_load_3 (lv_at hl 5 rfl) ?_
      refine lv_bipush (v := 64) hx hb d_Sha_load_5 (by decide) ?_
      refine lv_icmp_ge (tgt := 81) hx hb d_Sha_load_7 (by decide) (fun _ => ?_) (fun h => absurd ((nI_leI (a := 64) (b := (64)) (by omega) (by omega)).mpr (by omega)) h)
      exact kx_3 w _ _ _  hP hD hS (lv_sub hl [0, 1, 2, 3, 4, 5] rfl)
    | succ n ih_3 =>
      intro i w H locs ls hi_3 ha_3  hP hD hS hl kx_3
      refine lv_iload hx hb d_Sha_load_3 (lv_at hl 5 rfl) ?_
      refine lv_bipush (v := 64) hx hb d_Sha_load_5 (by decide) ?_
      refine lv_icmp_ge (tgt := 81) hx hb d_Sha_load_7 (by decide) (fun h => absurd h (fun h9 => absurd ((nI_leI (a := 64) (b := (i)) (by omega) (by omega)).mp h9) (by omega))) (fun _ => ?_)
      refine lv_iload hx hb d_Sha_load_10 (lv_at hl 4 rfl) ?_
      refine lv_iload hx hb d_Sha_load_12 (lv_at hl 5 rfl) ?_
      refine lv_iadd hx hb d_Sha_load_14 ?_
      refine zz_i (v := nI (0 + (i))) (nI_add 0 (i)) ?_
      refine lv_istore (lv' := [(6, .int (nI (0 + (i)))), (0, .ref h0), (1, .ref h3), (2, .int 77), (3, .int 17), (4, .int 0), (5, .int (nI i))]) hx hb d_Sha_load_15 hl (by decide) rfl (fun ls hl => ?_)
      refine lv_iload hx hb d_Sha_load_17 (lv_at hl 0 rfl) ?_
      refine lv_iload_n hx hb d_Sha_load_19 rfl (lv_at hl 4 rfl) ?_
      refine lv_icmp_ge (tgt := 36) hx hb d_Sha_load_20 (by decide) (fun c_2 => ?_) (fun c_2 => ?_)
      · have c_2n := (nI_leI (a := 17) (b := (0 + (i))) (by omega) (by omega)).mp c_2
        refine lv_iload hx hb d_Sha_load_36 (lv_at hl 0 rfl) ?_
        refine lv_iload_n hx hb d_Sha_load_38 rfl (lv_at hl 4 rfl) ?_
        refine lv_icmp_ne (tgt := 48) hx hb d_Sha_load_39 (by decide) (fun c_3 => ?_) (fun c_3 => ?_)
        · have c_3n : ¬ (0 + (i)) = 17 := fun h9 => c_3 ((nI_eq (a := (0 + (i))) (b := 17) (by omega) (by omega)).mpr h9)
          refine lv_iconst (v := 0) hx hb d_Sha_load_48 (by decide) ?_
          refine lv_istore (lv' := [(7, .int 0), (6, .int (nI (0 + (i)))), (0, .ref h0), (1, .ref h3), (2, .int 77), (3, .int 17), (4, .int 0), (5, .int (nI i))]) hx hb d_Sha_load_49 hl (by decide) rfl (fun ls hl => ?_)
          refine lv_aload_n hx hb d_Sha_load_51 rfl (lv_at hl 2 rfl) ?_
          refine va_get (D := (dC, dI)) (ci := 2) (v := .ref h1) (C := R_Sha) (T := F_Sha) (N := 2) hx hb hT i_Sha hown hK hP 0 rfl rfl 0 (by decide) (hT _ k_19) (fun _ h9 => h9) rfl d_Sha_load_52 ?_
          refine lv_iload hx hb d_Sha_load_55 (lv_at hl 7 rfl) ?_
          refine lv_iconst (v := 2) hx hb d_Sha_load_57 (by decide) ?_
          refine lv_ishr hx hb d_Sha_load_58 ?_
          refine zz_i (v := nI ((i) / 4)) (zz_shr (n := (i)) (by omega) (2 &&& 31) 2 (by decide) rfl) ?_
          refine lv_aload_n hx hb d_Sha_load_59 rfl (lv_at hl 2 rfl) ?_
          refine va_get (D := (dC, dI)) (ci := 2) (v := .ref h1) (C := R_Sha) (T := F_Sha) (N := 2) hx hb hT i_Sha hown hK hP 0 rfl rfl 0 (by decide) (hT _ k_19) (fun _ h9 => h9) rfl d_Sha_load_60 ?_
          refine lv_iload hx hb d_Sha_load_63 (lv_at hl 7 rfl) ?_
          refine lv_iconst (v := 2) hx hb d_Sha_load_65 (by decide) ?_
          refine lv_ishr hx hb d_Sha_load_66 ?_
          refine zz_i (v := nI ((i) / 4)) (zz_shr (n := (i)) (by omega) (2 &&& 31) 2 (by decide) rfl) ?_
          refine va_iald hx hb hK hP 1 0 rfl rfl (vp_in_nI (by omega) (by omega)) d_Sha_load_67 ?_
          refine lv_topi (fun x_4 _ => ?_)
          refine lv_bipush (v := 8) hx hb d_Sha_load_68 (by decide) ?_
          refine lv_ishl hx hb d_Sha_load_70 ?_
          refine lv_topi (fun x_5 _ => ?_)
          refine lv_iload hx hb d_Sha_load_71 (lv_at hl 0 rfl) ?_
          refine lv_ior hx hb d_Sha_load_73 ?_
          refine lv_topi (fun x_6 _ => ?_)
          refine zz_iast hx hb hK hP hD hS 1 0 rfl rfl (vp_in_nI (by omega) (by omega)) d_Sha_load_74 (fun f_7 H locs hP hD hS => ?_)
          have hP : va_P (dC, dI) cl_all [(h0, .inr (2, [.ref h1, .ref h2])), (h1, .inl (e1, 64, .inl f_7)), (h3, .inl (e3, N, .inl f3))] H := hP
          have hD : va_D A [(h0, .inr (2, [.ref h1, .ref h2])), (h1, .inl (e1, 64, .inl f_7)), (h3, .inl (e3, N, .inl f3))] := hD
          refine lv_iinc (v := (nI (i + 1))) (lv' := [(5, .int (nI (i + 1))), (7, .int 0), (6, .int (nI (0 + (i)))), (0, .ref h0), (1, .ref h3), (2, .int 77), (3, .int 17), (4, .int 0)]) hx hb d_Sha_load_75 hl (k := 7) rfl (nI_add (i) 1) (by decide) rfl (fun ls hl => ?_)
          refine lv_goto (tgt := 3) hx hb d_Sha_load_78 (by decide) ?_
          exact ih_3 (i + 1) f_7 _ _ _ (by omega) (by omega)  hP hD hS (lv_sub hl [3, 4, 5, 6, 7, 0] rfl) kx_3
        · have c_3n := (nI_eq (a := (0 + (i))) (b := 17) (by omega) (by omega)).mp c_3
          refine lv_sipush (v := 128) hx hb d_Sha_load_42 (by decide) ?_
          refine lv_goto (tgt := 49) hx hb d_Sha_load_45 (by decide) ?_
          refine lv_istore (lv' := [(7, .int 128), (6, .int (nI (0 + (i)))), (0, .ref h0), (1, .ref h3), (2, .int 77), (3, .int 17), (4, .int 0), (5, .int (nI i))]) hx hb d_Sha_load_49 hl (by decide) rfl (fun ls hl => ?_)
          refine lv_aload_n hx hb d_Sha_load_51 rfl (lv_at hl 2 rfl) ?_
          refine va_get (D := (dC, dI)) (ci := 2) (v := .ref h1) (C := R_Sha) (T := F_Sha) (N := 2) hx hb hT i_Sha hown hK hP 0 rfl rfl 0 (by decide) (hT _ k_19) (fun _ h9 => h9) rfl d_Sha_load_52 ?_
          refine lv_iload hx hb d_Sha_load_55 (lv_at hl 7 rfl) ?_
          refine lv_iconst (v := 2) hx hb d_Sha_load_57 (by decide) ?_
          refine lv_ishr hx hb d_Sha_load_58 ?_
          refine zz_i (v := nI ((i) / 4)) (zz_shr (n := (i)) (by omega) (2 &&& 31) 2 (by decide) rfl) ?_
          refine lv_aload_n hx hb d_Sha_load_59 rfl (lv_at hl 2 rfl) ?_
          refine va_get (D := (dC, dI)) (ci := 2) (v := .ref h1) (C := R_Sha) (T := F_Sha) (N := 2) hx hb hT i_Sha hown hK hP 0 rfl rfl 0 (by decide) (hT _ k_19) (fun _ h9 => h9) rfl d_Sha_load_60 ?_
          refine lv_iload hx hb d_Sha_load_63 (lv_at hl 7 rfl) ?_
          refine lv_iconst (v := 2) hx hb d_Sha_load_65 (by decide) ?_
          refine lv_ishr hx hb d_Sha_load_66 ?_
          refine zz_i (v := nI ((i) / 4)) (zz_shr (n := (i)) (by omega) (2 &&& 31) 2 (by decide) rfl) ?_
          refine va_iald hx hb hK hP 1 0 rfl rfl (vp_in_nI (by omega) (by omega)) d_Sha_load_67 ?_
          refine lv_topi (fun x_8 _ => ?_)
          refine lv_bipush (v := 8) hx hb d_Sha_load_68 (by decide) ?_
          refine lv_ishl hx hb d_Sha_load_70 ?_
          refine lv_topi (fun x_9 _ => ?_)
          refine lv_iload hx hb d_Sha_load_71 (lv_at hl 0 rfl) ?_
          refine lv_ior hx hb d_Sha_load_73 ?_
          refine lv_topi (fun x_10 _ => ?_)
          refine zz_iast hx hb hK hP hD hS 1 0 rfl rfl (vp_in_nI (by omega) (by omega)) d_Sha_load_74 (fun f_11 H locs hP hD hS => ?_)
          have hP : va_P (dC, dI) cl_all [(h0, .inr (2, [.ref h1, .ref h2])), (h1, .inl (e1, 64, .inl f_11)), (h3, .inl (e3, N, .inl f3))] H := hP
          have hD : va_D A [(h0, .inr (2, [.ref h1, .ref h2])), (h1, .inl (e1, 64, .inl f_11)), (h3, .inl (e3, N, .inl f3))] := hD
          refine lv_iinc (v := (nI (i + 1))) (lv' := [(5, .int (nI (i + 1))), (7, .int 128), (6, .int (nI (0 + (i)))), (0, .ref h0), (1, .ref h3), (2, .int 77), (3, .int 17), (4, .int 0)]) hx hb d_Sha_load_75 hl (k := 7) rfl (nI_add (i) 1) (by decide) rfl (fun ls hl => ?_)
          refine lv_goto (tgt := 3) hx hb d_Sha_load_78 (by decide) ?_
          exact ih_3 (i + 1) f_11 _ _ _ (by omega) (by omega)  hP hD hS (lv_sub hl [3, 4, 5, 6, 7, 0] rfl) kx_3
      · have c_2n : ¬ 17 ≤ (0 + (i)) := fun h9 => c_2 ((nI_leI (a := 17) (b := (0 + (i))) (by omega) (by omega)).mpr h9)
        refine lv_aload_n hx hb d_Sha_load_23 rfl (lv_at hl 2 rfl) ?_
        refine lv_iload_n hx hb d_Sha_load_24 rfl (lv_at hl 3 rfl) ?_
        refine lv_iload hx hb d_Sha_load_25 (lv_at hl 0 rfl) ?_
        refine lv_iadd hx hb d_Sha_load_27 ?_
        refine zz_i (v := nI (77 + (0 + (i)))) (nI_add 77 (0 + (i))) ?_
        refine va_bald hx hb hK hP 2 1 rfl rfl (vp_in_nI (by omega) (by omega)) d_Sha_load_28 ?_
        refine lv_topi (fun x_12 _ => ?_)
        refine lv_sipush (v := 255) hx hb d_Sha_load_29 (by decide) ?_
        refine lv_iand hx hb d_Sha_load_32 ?_
        refine lv_topi (fun x_13 _ => ?_)
        refine lv_goto (tgt := 49) hx hb d_Sha_load_33 (by decide) ?_
        refine lv_istore (lv' := [(7, .int x_13), (6, .int (nI (0 + (i)))), (0, .ref h0), (1, .ref h3), (2, .int 77), (3, .int 17), (4, .int 0), (5, .int (nI i))]) hx hb d_Sha_load_49 hl (by decide) rfl (fun ls hl => ?_)
        refine lv_aload_n hx hb d_Sha_load_51 rfl (lv_at hl 2 rfl) ?_
        refine va_get (D := (dC, dI)) (ci := 2) (v := .ref h1) (C := R_Sha) (T := F_Sha) (N := 2) hx hb hT i_Sha hown hK hP 0 rfl rfl 0 (by decide) (hT _ k_19) (fun _ h9 => h9) rfl d_Sha_load_52 ?_
        refine lv_iload hx hb d_Sha_load_55 (lv_at hl 7 rfl) ?_
        refine lv_iconst (v := 2) hx hb d_Sha_load_57 (by decide) ?_
        refine lv_ishr hx hb d_Sha_load_58 ?_
        refine zz_i (v := nI ((i) / 4)) (zz_shr (n := (i)) (by omega) (2 &&& 31) 2 (by decide) rfl) ?_
        refine lv_aload_n hx hb d_Sha_load_59 rfl (lv_at hl 2 rfl) ?_
        refine va_get (D := (dC, dI)) (ci := 2) (v := .ref h1) (C := R_Sha) (T := F_Sha) (N := 2) hx hb hT i_Sha hown hK hP 0 rfl rfl 0 (by decide) (hT _ k_19) (fun _ h9 => h9) rfl d_Sha_load_60 ?_
        refine lv_iload hx hb d_Sha_load_63 (lv_at hl 7 rfl) ?_
        refine lv_iconst (v := 2) hx hb d_Sha_load_65 (by decide) ?_
        refine lv_ishr hx hb d_Sha_load_66 ?_
        refine zz_i (v := nI ((i) / 4)) (zz_shr (n := (i)) (by omega) (2 &&& 31) 2 (by decide) rfl) ?_
        refine va_iald hx hb hK hP 1 0 rfl rfl (vp_in_nI (by omega) (by omega)) d_Sha_load_67 ?_
        refine lv_topi (fun x_14 _ => ?_)
        refine lv_bipush (v := 8) hx hb d_Sha_load_68 (by decide) ?_
        refine lv_ishl hx hb d_Sha_load_70 ?_
        refine lv_topi (fun x_15 _ => ?_)
        refine lv_iload hx hb d_Sha_load_71 (lv_at hl 0 rfl) ?_
        refine lv_ior hx hb d_Sha_load_73 ?_
        refine lv_topi (fun x_16 _ => ?_)
        refine zz_iast hx hb hK hP hD hS 1 0 rfl rfl (vp_in_nI (by omega) (by omega)) d_Sha_load_74 (fun f_17 H locs hP hD hS => ?_)
        have hP : va_P (dC, dI) cl_all [(h0, .inr (2, [.ref h1, .ref h2])), (h1, .inl (e1, 64, .inl f_17)), (h3, .inl (e3, N, .inl f3))] H := hP
        have hD : va_D A [(h0, .inr (2, [.ref h1, .ref h2])), (h1, .inl (e1, 64, .inl f_17)), (h3, .inl (e3, N, .inl f3))] := hD
        refine lv_iinc (v := (nI (i + 1))) (lv' := [(5, .int (nI (i + 1))), (7, .int x_13), (6, .int (nI (0 + (i)))), (0, .ref h0), (1, .ref h3), (2, .int 77), (3, .int 17), (4, .int 0)]) hx hb d_Sha_load_75 hl (k := 7) rfl (nI_add (i) 1) (by decide) rfl (fun ls hl => ?_)
        refine lv_goto (tgt := 3) hx hb d_Sha_load_78 (by decide) ?_
        exact ih_3 (i + 1) f_17 _ _ _ (by omega) (by omega)  hP hD hS (lv_sub hl [3, 4, 5, 6, 7, 0] rfl) kx_3
  refine lp3_1 _ (64 - 0) 0 f1 _ _ _ (by omega) (by omega)  hP hD hS (lv_sub hl [1, 2, 3, 4, 5, 0] rfl) (fun f_18 H locs ls  hP hD hS hl => ?_)
  refine lv_iload hx hb d_Sha_load_81 (lv_at hl 4 rfl) ?_
  refine lv_bipush (v := 64) hx hb d_Sha_load_83 (by decide) ?_
  refine lv_iadd hx hb d_Sha_load_85 ?_
  refine zz_i (v := 64) (by decide) ?_
  refine lv_iload_n hx hb d_Sha_load_86 rfl (lv_at hl 3 rfl) ?_
  refine lv_bipush (v := 9) hx hb d_Sha_load_87 (by decide) ?_
  refine lv_iadd hx hb d_Sha_load_89 ?_
  refine zz_i (v := 26) (by decide) ?_
  refine lv_icmp_lt (tgt := 104) hx hb d_Sha_load_90 (by decide) (fun h => absurd h (by decide)) (fun _ => ?_)
  refine lv_aload_n hx hb d_Sha_load_93 rfl (lv_at hl 0 rfl) ?_
  refine va_get (D := (dC, dI)) (ci := 2) (v := .ref h1) (C := R_Sha) (T := F_Sha) (N := 2) hx hb hT i_Sha hown hK hP 0 rfl rfl 0 (by decide) (hT _ k_19) (fun _ h9 => h9) rfl d_Sha_load_94 ?_
  refine lv_bipush (v := 15) hx hb d_Sha_load_97 (by decide) ?_
  refine lv_iload_n hx hb d_Sha_load_99 rfl (lv_at hl 3 rfl) ?_
  refine lv_bipush (v := 8) hx hb d_Sha_load_100 (by decide) ?_
  refine lv_imul hx hb d_Sha_load_102 ?_
  refine zz_i (v := 136) (by decide) ?_
  refine zz_iast hx hb hK hP hD hS 1 0 rfl rfl (by unfold vp_in; decide) d_Sha_load_103 (fun f_19 H locs hP hD hS => ?_)
  have hP : va_P (dC, dI) cl_all [(h0, .inr (2, [.ref h1, .ref h2])), (h1, .inl (e1, 64, .inl f_19)), (h3, .inl (e3, N, .inl f3))] H := hP
  have hD : va_D A [(h0, .inr (2, [.ref h1, .ref h2])), (h1, .inl (e1, 64, .inl f_19)), (h3, .inl (e3, N, .inl f3))] := hD
  have hP9 := hP.sub (ws' := [(h0, .inr (2, [.ref h1, .ref h2])), (h1, .inl (e1, 64, .inl f_19)), (h3, .inl (e3, N, .inl f3))]) [0, 1, 2] rfl
  have hD9 := hD.sub (ws' := [(h0, .inr (2, [.ref h1, .ref h2])), (h1, .inl (e1, 64, .inl f_19)), (h3, .inl (e3, N, .inl f3))]) [0, 1, 2] (by decide) rfl
  have hK9 := hK.sub (tys' := []) [] rfl
  exact W.vret hx hb hr (fun t9 ht9 hW9 => ⟨⟨(), rfl, trivial, ⟨f_19, by rw [ht9]; exact hP9, va_K.moved hW9.alike hK9, hD9⟩⟩, hS.F ht9⟩) hS.2.2 d_Sha_load_104
set_option maxHeartbeats 4000000 in
set_option maxRecDepth 100000 in
/-- load: the words of a block of 32 bytes -/
theorem c_Sha_load32 (l : Launch) (dC : Nat → ClassId) (dI : Nat → Nat → Nat) (z : zT) (sz : Nat) (h0 h1 h2 h3 : Nat) (e1 e3 : ClassId) (N : Nat) (f1 f3 : Nat → Int32) (hN : 32 ≤ N) (hM : N < 2 ^ 31) : Met l y_Sha_load w_Sha_load ({ frames := 0, cells := 0, slots := 0, locals := 0 }) (va_Pc [.ref h0, .ref h3, .int 0, .int 32, .int 0] (fun U => U.heap.size = sz ∧ va_P (dC, dI) cl_all [(h0, .inr (2, [.ref h1, .ref h2])), (h1, .inl (e1, 64, .inl f1)), (h3, .inl (e3, N, .inl f3))] U.heap ∧ va_K (dC, dI) cl_all [(e1, .int), (e3, .byte)] U ∧ va_D (fun _ => True) [(h0, .inr (2, [.ref h1, .ref h2])), (h1, .inl (e1, 64, .inl f1)), (h3, .inl (e3, N, .inl f3))] ∧ zz z (va_A [(h0, .inr (2, [.ref h1, .ref h2])), (h1, .inl (e1, 64, .inl f1)), (h3, .inl (e3, N, .inl f3))] sz) U U.heap)) (va_Qv (fun _ : Unit => True) (fun _ t => ∃ (g1 : Nat → Int32), va_P (dC, dI) cl_all [(h0, .inr (2, [.ref h1, .ref h2])), (h1, .inl (e1, 64, .inl g1)), (h3, .inl (e3, N, .inl f3))] t.heap ∧ va_K (dC, dI) cl_all [] t ∧ va_D (va_A [(h0, .inr (2, [.ref h1, .ref h2])), (h1, .inl (e1, 64, .inl f1)), (h3, .inl (e3, N, .inl f3))] sz) [(h0, .inr (2, [.ref h1, .ref h2])), (h1, .inl (e1, 64, .inl g1)), (h3, .inl (e3, N, .inl f3))]) (va_A [(h0, .inr (2, [.ref h1, .ref h2])), (h1, .inl (e1, 64, .inl f1)), (h3, .inl (e3, N, .inl f3))] sz)) 0 0 (va_A [(h0, .inr (2, [.ref h1, .ref h2])), (h1, .inl (e1, 64, .inl f1)), (h3, .inl (e3, N, .inl f3))] sz) := by
  refine Met.ofW (cc := b_Sha_load) (maxL := 8) (ret := none) (by decide) rfl ?_
  intro p e s m args below meth c s₁ B hml hv
  obtain ⟨rfl, hsz, hP, hK, hD0, hZ⟩ := hv
  have hx := B.exec
  have hb := B.bytes
  have hr := B.returns
  have hT : ∀ w ∈ lw_all, w.before _ s = true := fun w h => atoms_spec (ws := w_Sha_load) B.pre w (List.mem_cons_of_mem _ h)
  have hown : s.vm.findClass R_Sha = some m.cls := findClass_of_methodNamed B.named
  have hlocks := B.notSynchronized
  subst hsz
  have hD := hD0.self (sz := s.heap.size)
  generalize hAe : va_A [(h0, .inr (2, [.ref h1, .ref h2])), (h1, .inl (e1, 64, .inl f1)), (h3, .inl (e3, N, .inl f3))] s.heap.size = A at hD hZ ⊢
  have hA : ∀ q : Nat, s.heap.size ≤ q → A q := fun q h => by rw [← hAe]; exact Or.inr h
  have hS : va_S A s.heap s.heap [] := va_S.rf
  have hl := lv_entry ([.ref h0, .ref h3, .int 0, .int 32, .int 0]) (n := 8) (Nat.le_of_ble_eq_true rfl)
  rw [lg_entry_eq]
  generalize (lg_sl ([.ref h0, .ref h3, .int 0, .int 32, .int 0]) ++ List.replicate (8 - (lg_sl ([.ref h0, .ref h3, .int 0, .int 32, .int 0])).length) Slot.unset).toArray = ls at hl ⊢
  have hl : lv_has ls 8 [(0, .ref h0), (1, .ref h3), (2, .int 0), (3, .int 32), (4, .int 0)] := hl
  refine lv_iconst (v := 0) hx hb d_Sha_load_0 (by decide) ?_
  refine lv_istore (lv' := [(5, .int 0), (0, .ref h0), (1, .ref h3), (2, .int 0), (3, .int 32), (4, .int 0)]) hx hb d_Sha_load_1 hl (by decide) rfl (fun ls hl => ?_)
  have lp3_1 : ∀ (Q : State → Prop) (n i : Nat) (w : Nat → Int32) (H : Heap) (locs : List Loc) (ls : Array Slot), i + n = 64 → 0 ≤ i → va_P (dC, dI) cl_all [(h0, .inr (2, [.ref h1, .ref h2])), (h1, .inl (e1, 64, .inl w)), (h3, .inl (e3, N, .inl f3))] H → va_D A [(h0, .inr (2, [.ref h1, .ref h2])), (h1, .inl (e1, 64, .inl w)), (h3, .inl (e3, N, .inl f3))] → va_S A s.heap H locs → lv_has ls 8 [(0, .ref h0), (1, .ref h3), (2, .int 0), (3, .int 32), (4, .int 0), (5, .int (nI i))] → (∀ (w : Nat → Int32) (H : Heap) (locs : List Loc) (ls : Array Slot), va_P (dC, dI) cl_all [(h0, .inr (2, [.ref h1, .ref h2])), (h1, .inl (e1, 64, .inl w)), (h3, .inl (e3, N, .inl f3))] H → va_D A [(h0, .inr (2, [.ref h1, .ref h2])), (h1, .inl (e1, 64, .inl w)), (h3, .inl (e3, N, .inl f3))] → va_S A s.heap H locs → lv_has ls 8 [(0, .ref h0), (1, .ref h3), (2, .int 0), (3, .int 32), (4, .int 0), (5, .int (nI 64))] → W p l e (headSpec w_Sha_load ({ frames := 0, cells := 0, slots := 0, locals := 0 })).room s m ([.ref h0, .ref h3, .int 0, .int 32, .int 0] : List Value).toArray below meth c H locs 0 0 Q (F0 m 81 ls [])) → W p l e (headSpec w_Sha_load ({ frames := 0, cells := 0, slots := 0, locals := 0 })).room s m ([.ref h0, .ref h3, .int 0, .int 32, .int 0] : List Value).toArray below meth c H locs 0 0 Q (F0 m 3 ls []) := by
    intro Q n
    induction n with
    | zero =>
      intro i w H locs ls hi_3 ha_3  hP hD hS hl kx_3
      have hi_3 : i = 64 := by omega
      subst hi_3
      refine lv_iload hx hb d_Sha_load_3 (lv_at hl 5 rfl) ?_
      refine lv_bipush (v := 64) hx hb d_Sha_load_5 (by decide) ?_
      refine lv_icmp_ge (tgt := 81) hx hb d_Sha_load_7 (by decide) (fun _ => ?_) (fun h => absurd ((nI_leI (a := 64) (b := (64)) (by omega) (by omega)).mpr (by omega)) h)
      exact kx_3 w _ _ _  hP hD hS (lv_sub hl [0, 1, 2, 3, 4, 5] rfl)
    | succ n ih_3 =>
      intro i w H locs ls hi_3 ha_3  hP hD hS hl kx_3
      refine lv_iload hx hb d_Sha_load_3 (lv_at hl 5 rfl) ?_
      refine lv_bipush (v := 64) hx hb d_Sha_load_5 (by decide) ?_
      refine lv_icmp_ge (tgt := 81) hx hb d_Sha_load_7 (by decide) (fun h => absurd h (fun h9 => absurd ((nI_leI (a := 64) (b := (i)) (by omega) (by omega)).mp h9) (by omega))) (fun _ => ?_)
      refine lv_iload hx hb d_Sha_load_10 (lv_at hl 4 rfl) ?_
      refine lv_iload hx hb d_Sha_load_12 (lv_at hl 5 rfl) ?_
      refine lv_iadd hx hb d_Sha_load_14 ?_
      refine zz_i (v := nI (0 + (i))) (nI_add 0 (i)) ?_
      refine lv_istore (lv' := [(6, .int (nI (0 + (i)))), (0, .ref h0), (1, .ref h3), (2, .int 0), (3, .int 32), (4, .int 0), (5, .int (nI i))]) hx hb d_Sha_load_15 hl (by decide) rfl (fun ls hl => ?_)
      refine lv_iload hx hb d_Sha_load_17 (lv_at hl 0 rfl) ?_
      refine lv_iload_n hx hb d_Sha_load_19 rfl (lv_at hl 4 rfl) ?_
      refine lv_icmp_ge (tgt := 36) hx hb d_Sha_load_20 (by decide) (fun c_2 => ?_) (fun c_2 => ?_)
      · have c_2n := (nI_leI (a := 32) (b := (0 + (i))) (by omega) (by omega)).mp c_2
        refine lv_iload hx hb d_Sha_load_36 (lv_at hl 0 rfl) ?_
        refine lv_iload_n hx hb d_Sha_load_38 rfl (lv_at hl 4 rfl) ?_
        refine lv_icmp_ne (tgt := 48) hx hb d_Sha_load_39 (by decide) (fun c_3 => ?_) (fun c_3 => ?_)
        · have c_3n : ¬ (0 + (i)) = 32 := fun h9 => c_3 ((nI_eq (a := (0 + (i))) (b := 32) (by omega) (by omega)).mpr h9)
          refine lv_iconst (v := 0) hx hb d_Sha_load_48 (by decide) ?_
          refine lv_istore (lv' := [(7, .int 0), (6, .int (nI (0 + (i)))), (0, .ref h0), (1, .ref h3), (2, .int 0), (3, .int 32), (4, .int 0), (5, .int (nI i))]) hx hb d_Sha_load_49 hl (by decide) rfl (fun ls hl => ?_)
          refine lv_aload_n hx hb d_Sha_load_51 rfl (lv_at hl 2 rfl) ?_
          refine va_get (D := (dC, dI)) (ci := 2) (v := .ref h1) (C := R_Sha) (T := F_Sha) (N := 2) hx hb hT i_Sha hown hK hP 0 rfl rfl 0 (by decide) (hT _ k_19) (fun _ h9 => h9) rfl d_Sha_load_52 ?_
          refine lv_iload hx hb d_Sha_load_55 (lv_at hl 7 rfl) ?_
          refine lv_iconst (v := 2) hx hb d_Sha_load_57 (by decide) ?_
          refine lv_ishr hx hb d_Sha_load_58 ?_
          refine zz_i (v := nI ((i) / 4)) (zz_shr (n := (i)) (by omega) (2 &&& 31) 2 (by decide) rfl) ?_
          refine lv_aload_n hx hb d_Sha_load_59 rfl (lv_at hl 2 rfl) ?_
          refine va_get (D := (dC, dI)) (ci := 2) (v := .ref h1) (C := R_Sha) (T := F_Sha) (N := 2) hx hb hT i_Sha hown hK hP 0 rfl rfl 0 (by decide) (hT _ k_19) (fun _ h9 => h9) rfl d_Sha_load_60 ?_
          refine lv_iload hx hb d_Sha_load_63 (lv_at hl 7 rfl) ?_
          refine lv_iconst (v := 2) hx hb d_Sha_load_65 (by decide) ?_
          refine lv_ishr hx hb d_Sha_load_66 ?_
          refine zz_i (v := nI ((i) / 4)) (zz_shr (n := (i)) (by omega) (2 &&& 31) 2 (by decide) rfl) ?_
          refine va_iald hx hb hK hP 1 0 rfl rfl (vp_in_nI (by omega) (by omega)) d_Sha_load_67 ?_
          refine lv_topi (fun x_4 _ => ?_)
          refine lv_bipush (v := 8) hx hb d_Sha_load_68 (by decide) ?_
          refine lv_ishl hx hb d_Sha_load_70 ?_
          refine lv_topi (fun x_5 _ => ?_)
          refine lv_iload hx hb d_Sha_load_71 (lv_at hl 0 rfl) ?_
          refine lv_ior hx hb d_Sha_load_73 ?_
          refine lv_topi (fun x_6 _ => ?_)
          refine zz_iast hx hb hK hP hD hS 1 0 rfl rfl (vp_in_nI (by omega) (by omega)) d_Sha_load_74 (fun f_7 H locs hP hD hS => ?_)
          have hP : va_P (dC, dI) cl_all [(h0, .inr (2, [.ref h1, .ref h2])), (h1, .inl (e1, 64, .inl f_7)), (h3, .inl (e3, N, .inl f3))] H := hP
          have hD : va_D A [(h0, .inr (2, [.ref h1, .ref h2])), (h1, .inl (e1, 64, .inl f_7)), (h3, .inl (e3, N, .inl f3))] := hD
          refine lv_iinc (v := (nI (i + 1))) (lv' := [(5, .int (nI (i + 1))), (7, .int 0), (6, .int (nI (0 + (i)))), (0, .ref h0), (1, .ref h3), (2, .int 0), (3, .int 32), (4, .int 0)]) hx hb d_Sha_load_75 hl (k := 7) rfl (nI_add (i) 1) (by decide) rfl (fun ls hl => ?_)
          refine lv_goto (tgt := 3) hx hb d_Sha_load_78 (by decide) ?_
          exact ih_3 (i + 1) f_7 _ _ _ (by omega) (by omega)  hP hD hS (lv_sub hl [3, 4, 5, 6, 7, 0] rfl) kx_3
        · have c_3n := (nI_eq (a := (0 + (i))) (b := 32) (by omega) (by omega)).mp c_3
          refine lv_sipush (v := 128) hx hb d_Sha_load_42 (by decide) ?_
          refine lv_goto (tgt := 49) hx hb d_Sha_load_45 (by decide) ?_
          refine lv_istore (lv' := [(7, .int 128), (6, .int (nI (0 + (i)))), (0, .ref h0), (1, .ref h3), (2, .int 0), (3, .int 32), (4, .int 0), (5, .int (nI i))]) hx hb d_Sha_load_49 hl (by decide) rfl (fun ls hl => ?_)
          refine lv_aload_n hx hb d_Sha_load_51 rfl (lv_at hl 2 rfl) ?_
          refine va_get (D := (dC, dI)) (ci := 2) (v := .ref h1) (C := R_Sha) (T := F_Sha) (N := 2) hx hb hT i_Sha hown hK hP 0 rfl rfl 0 (by decide) (hT _ k_19) (fun _ h9 => h9) rfl d_Sha_load_52 ?_
          refine lv_iload hx hb d_Sha_load_55 (lv_at hl 7 rfl) ?_
          refine lv_iconst (v := 2) hx hb d_Sha_load_57 (by decide) ?_
          refine lv_ishr hx hb d_Sha_load_58 ?_
          refine zz_i (v := nI ((i) / 4)) (zz_shr (n := (i)) (by omega) (2 &&& 31) 2 (by decide) rfl) ?_
          refine lv_aload_n hx hb d_Sha_load_59 rfl (lv_at hl 2 rfl) ?_
          refine va_get (D := (dC, dI)) (ci := 2) (v := .ref h1) (C := R_Sha) (T := F_Sha) (N := 2) hx hb hT i_Sha hown hK hP 0 rfl rfl 0 (by decide) (hT _ k_19) (fun _ h9 => h9) rfl d_Sha_load_60 ?_
          refine lv_iload hx hb d_Sha_load_63 (lv_at hl 7 rfl) ?_
          refine lv_iconst (v := 2) hx hb d_Sha_load_65 (by decide) ?_
          refine lv_ishr hx hb d_Sha_load_66 ?_
          refine zz_i (v := nI ((i) / 4)) (zz_shr (n := (i)) (by omega) (2 &&& 31) 2 (by decide) rfl) ?_
          refine va_iald hx hb hK hP 1 0 rfl rfl (vp_in_nI (by omega) (by omega)) d_Sha_load_67 ?_
          refine lv_topi (fun x_8 _ => ?_)
          refine lv_bipush (v := 8) hx hb d_Sha_load_68 (by decide) ?_
          refine lv_ishl hx hb d_Sha_load_70 ?_
          refine lv_topi (fun x_9 _ => ?_)
          refine lv_iload hx hb d_Sha_load_71 (lv_at hl 0 rfl) ?_
          refine lv_ior hx hb d_Sha_load_73 ?_
          refine lv_topi (fun x_10 _ => ?_)
          refine zz_iast hx hb hK hP hD hS 1 0 rfl rfl (vp_in_nI (by omega) (by omega)) d_Sha_load_74 (fun f_11 H locs hP hD hS => ?_)
          have hP : va_P (dC, dI) cl_all [(h0, .inr (2, [.ref h1, .ref h2])), (h1, .inl (e1, 64, .inl f_11)), (h3, .inl (e3, N, .inl f3))] H := hP
          have hD : va_D A [(h0, .inr (2, [.ref h1, .ref h2])), (h1, .inl (e1, 64, .inl f_11)), (h3, .inl (e3, N, .inl f3))] := hD
          refine lv_iinc (v := (nI (i + 1))) (lv' := [(5, .int (nI (i + 1))), (7, .int 128), (6, .int (nI (0 + (i)))), (0, .ref h0), (1, .ref h3), (2, .int 0), (3, .int 32), (4, .int 0)]) hx hb d_Sha_load_75 hl (k := 7) rfl (nI_add (i) 1) (by decide) rfl (fun ls hl => ?_)
          refine lv_goto (tgt := 3) hx hb d_Sha_load_78 (by decide) ?_
          exact ih_3 (i + 1) f_11 _ _ _ (by omega) (by omega)  hP hD hS (lv_sub hl [3, 4, 5, 6, 7, 0] rfl) kx_3
      · have c_2n : ¬ 32 ≤ (0 + (i)) := fun h9 => c_2 ((nI_leI (a := 32) (b := (0 + (i))) (by omega) (by omega)).mpr h9)
        refine lv_aload_n hx hb d_Sha_load_23 rfl (lv_at hl 2 rfl) ?_
        refine lv_iload_n hx hb d_Sha_load_24 rfl (lv_at hl 3 rfl) ?_
        refine lv_iload hx hb d_Sha_load_25 (lv_at hl 0 rfl) ?_
        refine lv_iadd hx hb d_Sha_load_27 ?_
        refine zz_i (v := nI (0 + (0 + (i)))) (nI_add 0 (0 + (i))) ?_
        refine va_bald hx hb hK hP 2 1 rfl rfl (vp_in_nI (by omega) (by omega)) d_Sha_load_28 ?_
        refine lv_topi (fun x_12 _ => ?_)
        refine lv_sipush (v := 255) hx hb d_Sha_load_29 (by decide) ?_
        refine lv_iand hx hb d_Sha_load_32 ?_
        refine lv_topi (fun x_13 _ => ?_)
        refine lv_goto (tgt := 49) hx hb d_Sha_load_33 (by decide) ?_
        refine lv_istore (lv' := [(7, .int x_13), (6, .int (nI (0 + (i)))), (0, .ref h0), (1, .ref h3), (2, .int 0), (3, .int 32), (4, .int 0), (5, .int (nI i))]) hx hb d_Sha_load_49 hl (by decide) rfl (fun ls hl => ?_)
        refine lv_aload_n hx hb d_Sha_load_51 rfl (lv_at hl 2 rfl) ?_
        refine va_get (D := (dC, dI)) (ci := 2) (v := .ref h1) (C := R_Sha) (T := F_Sha) (N := 2) hx hb hT i_Sha hown hK hP 0 rfl rfl 0 (by decide) (hT _ k_19) (fun _ h9 => h9) rfl d_Sha_load_52 ?_
        refine lv_iload hx hb d_Sha_load_55 (lv_at hl 7 rfl) ?_
        refine lv_iconst (v := 2) hx hb d_Sha_load_57 (by decide) ?_
        refine lv_ishr hx hb d_Sha_load_58 ?_
        refine zz_i (v := nI ((i) / 4)) (zz_shr (n := (i)) (by omega) (2 &&& 31) 2 (by decide) rfl) ?_
        refine lv_aload_n hx hb d_Sha_load_59 rfl (lv_at hl 2 rfl) ?_
        refine va_get (D := (dC, dI)) (ci := 2) (v := .ref h1) (C := R_Sha) (T := F_Sha) (N := 2) hx hb hT i_Sha hown hK hP 0 rfl rfl 0 (by decide) (hT _ k_19) (fun _ h9 => h9) rfl d_Sha_load_60 ?_
        refine lv_iload hx hb d_Sha_load_63 (lv_at hl 7 rfl) ?_
        refine lv_iconst (v := 2) hx hb d_Sha_load_65 (by decide) ?_
        refine lv_ishr hx hb d_Sha_load_66 ?_
        refine zz_i (v := nI ((i) / 4)) (zz_shr (n := (i)) (by omega) (2 &&& 31) 2 (by decide) rfl) ?_
        refine va_iald hx hb hK hP 1 0 rfl rfl (vp_in_nI (by omega) (by omega)) d_Sha_load_67 ?_
        refine lv_topi (fun x_14 _ => ?_)
        refine lv_bipush (v := 8) hx hb d_Sha_load_68 (by decide) ?_
        refine lv_ishl hx hb d_Sha_load_70 ?_
        refine lv_topi (fun x_15 _ => ?_)
        refine lv_iload hx hb d_Sha_load_71 (lv_at hl 0 rfl) ?_
        refine lv_ior hx hb d_Sha_load_73 ?_
        refine lv_topi (fun x_16 _ => ?_)
        refine zz_iast hx hb hK hP hD hS 1 0 rfl rfl (vp_in_nI (by omega) (by omega)) d_Sha_load_74 (fun f_17 H locs hP hD hS => ?_)
        have hP : va_P (dC, dI) cl_all [(h0, .inr (2, [.ref h1, .ref h2])), (h1, .inl (e1, 64, .inl f_17)), (h3, .inl (e3, N, .inl f3))] H := hP
        have hD : va_D A [(h0, .inr (2, [.ref h1, .ref h2])), (h1, .inl (e1, 64, .inl f_17)), (h3, .inl (e3, N, .inl f3))] := hD
        refine lv_iinc (v := (nI (i + 1))) (lv' := [(5, .int (nI (i + 1))), (7, .int x_13), (6, .int (nI (0 + (i)))), (0, .ref h0), (1, .ref h3), (2, .int 0), (3, .int 32), (4, .int 0)]) hx hb d_Sha_load_75 hl (k := 7) rfl (nI_add (i) 1) (by decide) rfl (fun ls hl => ?_)
        refine lv_goto (tgt := 3) hx hb d_Sha_load_78 (by decide) ?_
        exact ih_3 (i + 1) f_17 _ _ _ (by omega) (by omega)  hP hD hS (lv_sub hl [3, 4, 5, 6, 7, 0] rfl) kx_3
  refine lp3_1 _ (64 - 0) 0 f1 _ _ _ (by omega) (by omega)  hP hD hS (lv_sub hl [1, 2, 3, 4, 5, 0] rfl) (fun f_18 H locs ls  hP hD hS hl => ?_)
  refine lv_iload hx hb d_Sha_load_81 (lv_at hl 4 rfl) ?_
  refine lv_bipush (v := 64) hx hb d_Sha_load_83 (by decide) ?_
  refine lv_iadd hx hb d_Sha_load_85 ?_
  refine zz_i (v := 64) (by decide) ?_
  refine lv_iload_n hx hb d_Sha_load_86 rfl (lv_at hl 3 rfl) ?_
  refine lv_bipush (v := 9) hx hb d_Sha_load_87 (by decide) ?_
  refine lv_iadd hx hb d_Sha_load_89 ?_
  refine zz_i (v := 41) (by decide) ?_
  refine lv_icmp_lt (tgt := 104) hx hb d_Sha_load_90 (by decide) (fun h => absurd h (by decide)) (fun _ => ?_)
  refine lv_aload_n hx hb d_Sha_load_93 rfl (lv_at hl 0 rfl) ?_
  refine va_get (D := (dC, dI)) (ci := 2) (v := .ref h1) (C := R_Sha) (T := F_Sha) (N := 2) hx hb hT i_Sha hown hK hP 0 rfl rfl 0 (by decide) (hT _ k_19) (fun _ h9 => h9) rfl d_Sha_load_94 ?_
  refine lv_bipush (v := 15) hx hb d_Sha_load_97 (by decide) ?_
  refine lv_iload_n hx hb d_Sha_load_99 rfl (lv_at hl 3 rfl) ?_
  refine lv_bipush (v := 8) hx hb d_Sha_load_100 (by decide) ?_
  refine lv_imul hx hb d_Sha_load_102 ?_
  refine zz_i (v := 256) (by decide) ?_
  refine zz_iast hx hb hK hP hD hS 1 0 rfl rfl (by unfold vp_in; decide) d_Sha_load_103 (fun f_19 H locs hP hD hS => ?_)
  have hP : va_P (dC, dI) cl_all [(h0, .inr (2, [.ref h1, .ref h2])), (h1, .inl (e1, 64, .inl f_19)), (h3, .inl (e3, N, .inl f3))] H := hP
  have hD : va_D A [(h0, .inr (2, [.ref h1, .ref h2])), (h1, .inl (e1, 64, .inl f_19)), (h3, .inl (e3, N, .inl f3))] := hD
  have hP9 := hP.sub (ws' := [(h0, .inr (2, [.ref h1, .ref h2])), (h1, .inl (e1, 64, .inl f_19)), (h3, .inl (e3, N, .inl f3))]) [0, 1, 2] rfl
  have hD9 := hD.sub (ws' := [(h0, .inr (2, [.ref h1, .ref h2])), (h1, .inl (e1, 64, .inl f_19)), (h3, .inl (e3, N, .inl f3))]) [0, 1, 2] (by decide) rfl
  have hK9 := hK.sub (tys' := []) [] rfl
  exact W.vret hx hb hr (fun t9 ht9 hW9 => ⟨⟨(), rfl, trivial, ⟨f_19, by rw [ht9]; exact hP9, va_K.moved hW9.alike hK9, hD9⟩⟩, hS.F ht9⟩) hS.2.2 d_Sha_load_104
set_option maxHeartbeats 4000000 in
set_option maxRecDepth 100000 in
/-- mix: the rows change -/
theorem c_Sha_mix (l : Launch) (dC : Nat → ClassId) (dI : Nat → Nat → Nat) (z : zT) (sz : Nat) (h0 h1 h2 : Nat) (e1 e2 : ClassId) (f1 f2 : Nat → Int32)  : Met l y_Sha_mix w_Sha_mix ({ frames := 0, cells := 0, slots := 0, locals := 0 }) (va_Pc [.ref h0] (fun U => U.heap.size = sz ∧ va_P (dC, dI) cl_all [(h0, .inr (2, [.ref h1, .ref h2])), (h1, .inl (e1, 64, .inl f1)), (h2, .inl (e2, 8, .inl f2))] U.heap ∧ va_K (dC, dI) cl_all [(e1, .int), (e2, .int)] U ∧ va_D (fun _ => True) [(h0, .inr (2, [.ref h1, .ref h2])), (h1, .inl (e1, 64, .inl f1)), (h2, .inl (e2, 8, .inl f2))] ∧ zz z (va_A [(h0, .inr (2, [.ref h1, .ref h2])), (h1, .inl (e1, 64, .inl f1)), (h2, .inl (e2, 8, .inl f2))] sz) U U.heap)) (va_Qv (fun _ : Unit => True) (fun _ t => ∃ (g1 : Nat → Int32) (g2 : Nat → Int32), va_P (dC, dI) cl_all [(h0, .inr (2, [.ref h1, .ref h2])), (h1, .inl (e1, 64, .inl g1)), (h2, .inl (e2, 8, .inl g2))] t.heap ∧ va_K (dC, dI) cl_all [] t ∧ va_D (va_A [(h0, .inr (2, [.ref h1, .ref h2])), (h1, .inl (e1, 64, .inl f1)), (h2, .inl (e2, 8, .inl f2))] sz) [(h0, .inr (2, [.ref h1, .ref h2])), (h1, .inl (e1, 64, .inl g1)), (h2, .inl (e2, 8, .inl g2))]) (va_A [(h0, .inr (2, [.ref h1, .ref h2])), (h1, .inl (e1, 64, .inl f1)), (h2, .inl (e2, 8, .inl f2))] sz)) 0 0 (va_A [(h0, .inr (2, [.ref h1, .ref h2])), (h1, .inl (e1, 64, .inl f1)), (h2, .inl (e2, 8, .inl f2))] sz) := by
  refine Met.ofW (cc := b_Sha_mix) (maxL := 14) (ret := none) (by decide) rfl ?_
  intro p e s m args below meth c s₁ B hml hv
  obtain ⟨rfl, hsz, hP, hK, hD0, hZ⟩ := hv
  have hx := B.exec
  have hb := B.bytes
  have hr := B.returns
  have hT : ∀ w ∈ lw_all, w.before _ s = true := fun w h => atoms_spec (ws := w_Sha_mix) B.pre w (List.mem_cons_of_mem _ h)
  have hown : s.vm.findClass R_Sha = some m.cls := findClass_of_methodNamed B.named
  have hlocks := B.notSynchronized
  subst hsz
  have hD := hD0.self (sz := s.heap.size)
  generalize hAe : va_A [(h0, .inr (2, [.ref h1, .ref h2])), (h1, .inl (e1, 64, .inl f1)), (h2, .inl (e2, 8, .inl f2))] s.heap.size = A at hD hZ ⊢
  have hA : ∀ q : Nat, s.heap.size ≤ q → A q := fun q h => by rw [← hAe]; exact Or.inr h
  have hS : va_S A s.heap s.heap [] := va_S.rf
  have hl := lv_entry ([.ref h0]) (n := 14) (Nat.le_of_ble_eq_true rfl)
  rw [lg_entry_eq]
  generalize (lg_sl ([.ref h0]) ++ List.replicate (14 - (lg_sl ([.ref h0])).length) Slot.unset).toArray = ls at hl ⊢
  have hl : lv_has ls 14 [(0, .ref h0)] := hl
  refine lv_bipush (v := 16) hx hb d_Sha_mix_0 (by decide) ?_
  refine lv_istore_n (lv' := [(1, .int 16), (0, .ref h0)]) hx hb d_Sha_mix_2 rfl hl (by decide) rfl (fun ls hl => ?_)
  have lp3_1 : ∀ (Q : State → Prop) (n i : Nat) (w : Nat → Int32) (H : Heap) (locs : List Loc) (ls : Array Slot), i + n = 64 → 16 ≤ i → va_P (dC, dI) cl_all [(h0, .inr (2, [.ref h1, .ref h2])), (h1, .inl (e1, 64, .inl w)), (h2, .inl (e2, 8, .inl f2))] H → va_D A [(h0, .inr (2, [.ref h1, .ref h2])), (h1, .inl (e1, 64, .inl w)), (h2, .inl (e2, 8, .inl f2))] → va_S A s.heap H locs → lv_has ls 14 [(0, .ref h0), (1, .int (nI i))] → (∀ (w : Nat → Int32) (H : Heap) (locs : List Loc) (ls : Array Slot), va_P (dC, dI) cl_all [(h0, .inr (2, [.ref h1, .ref h2])), (h1, .inl (e1, 64, .inl w)), (h2, .inl (e2, 8, .inl f2))] H → va_D A [(h0, .inr (2, [.ref h1, .ref h2])), (h1, .inl (e1, 64, .inl w)), (h2, .inl (e2, 8, .inl f2))] → va_S A s.heap H locs → lv_has ls 14 [(0, .ref h0), (1, .int (nI 64))] → W p l e (headSpec w_Sha_mix ({ frames := 0, cells := 0, slots := 0, locals := 0 })).room s m ([.ref h0] : List Value).toArray below meth c H locs 0 0 Q (F0 m 116 ls [])) → W p l e (headSpec w_Sha_mix ({ frames := 0, cells := 0, slots := 0, locals := 0 })).room s m ([.ref h0] : List Value).toArray below meth c H locs 0 0 Q (F0 m 3 ls []) := by
    intro Q n
    induction n with
    | zero =>
      intro i w H locs ls hi_3 ha_3  hP hD hS hl kx_3
      have hi_3 : i = 64 := by omega
      subst hi_3
      refine lv_iload_n hx hb d_Sha_mix_3 rfl (lv_at hl 1 rfl) ?_
      refine lv_bipush (v := 64) hx hb d_Sha_mix_4 (by decide) ?_
      refine lv_icmp_ge (tgt := 116) hx hb d_Sha_mix_6 (by decide) (fun _ => ?_) (fun h => absurd ((nI_leI (a := 64) (b := (64)) (by omega) (by omega)).mpr (by omega)) h)
      exact kx_3 w _ _ _  hP hD hS (lv_sub hl [0, 1] rfl)
    | succ n ih_3 =>
      intro i w H locs ls hi_3 ha_3  hP hD hS hl kx_3
      refine lv_iload_n hx hb d_Sha_mix_3 rfl (lv_at hl 1 rfl) ?_
      refine lv_bipush (v := 64) hx hb d_Sha_mix_4 (by decide) ?_
      refine lv_icmp_ge (tgt := 116) hx hb d_Sha_mix_6 (by decide) (fun h => absurd h (fun h9 => absurd ((nI_leI (a := 64) (b := (i)) (by omega) (by omega)).mp h9) (by omega))) (fun _ => ?_)
      refine lv_aload_n hx hb d_Sha_mix_9 rfl (lv_at hl 0 rfl) ?_
      refine va_get (D := (dC, dI)) (ci := 2) (v := .ref h1) (C := R_Sha) (T := F_Sha) (N := 2) hx hb hT i_Sha hown hK hP 0 rfl rfl 0 (by decide) (hT _ k_19) (fun _ h9 => h9) rfl d_Sha_mix_10 ?_
      refine lv_iload_n hx hb d_Sha_mix_13 rfl (lv_at hl 1 rfl) ?_
      refine lv_bipush (v := 15) hx hb d_Sha_mix_14 (by decide) ?_
      refine lv_isub hx hb d_Sha_mix_16 ?_
      refine zz_i (v := nI ((i) - 15)) (pk_sub (a := (i)) (b := 15) (by omega)) ?_
      refine va_iald hx hb hK hP 1 0 rfl rfl (vp_in_nI (by omega) (by omega)) d_Sha_mix_17 ?_
      refine lv_topi (fun x_2 _ => ?_)
      refine lv_istore_n (lv' := [(2, .int x_2), (0, .ref h0), (1, .int (nI i))]) hx hb d_Sha_mix_18 rfl hl (by decide) rfl (fun ls hl => ?_)
      refine lv_aload_n hx hb d_Sha_mix_19 rfl (lv_at hl 1 rfl) ?_
      refine va_get (D := (dC, dI)) (ci := 2) (v := .ref h1) (C := R_Sha) (T := F_Sha) (N := 2) hx hb hT i_Sha hown hK hP 0 rfl rfl 0 (by decide) (hT _ k_19) (fun _ h9 => h9) rfl d_Sha_mix_20 ?_
      refine lv_iload_n hx hb d_Sha_mix_23 rfl (lv_at hl 2 rfl) ?_
      refine lv_iconst (v := 2) hx hb d_Sha_mix_24 (by decide) ?_
      refine lv_isub hx hb d_Sha_mix_25 ?_
      refine zz_i (v := nI ((i) - 2)) (pk_sub (a := (i)) (b := 2) (by omega)) ?_
      refine va_iald hx hb hK hP 1 0 rfl rfl (vp_in_nI (by omega) (by omega)) d_Sha_mix_26 ?_
      refine lv_topi (fun x_3 _ => ?_)
      refine lv_istore_n (lv' := [(3, .int x_3), (2, .int x_2), (0, .ref h0), (1, .int (nI i))]) hx hb d_Sha_mix_27 rfl hl (by decide) rfl (fun ls hl => ?_)
      refine lv_iload_n hx hb d_Sha_mix_28 rfl (lv_at hl 1 rfl) ?_
      refine lv_bipush (v := 7) hx hb d_Sha_mix_29 (by decide) ?_
      refine lv_iushr hx hb d_Sha_mix_31 rfl ?_
      refine lv_topi (fun x_4 _ => ?_)
      refine lv_iload_n hx hb d_Sha_mix_32 rfl (lv_at hl 1 rfl) ?_
      refine lv_bipush (v := 25) hx hb d_Sha_mix_33 (by decide) ?_
      refine lv_ishl hx hb d_Sha_mix_35 ?_
      refine lv_topi (fun x_5 _ => ?_)
      refine lv_ior hx hb d_Sha_mix_36 ?_
      refine lv_topi (fun x_6 _ => ?_)
      refine lv_iload_n hx hb d_Sha_mix_37 rfl (lv_at hl 1 rfl) ?_
      refine lv_bipush (v := 18) hx hb d_Sha_mix_38 (by decide) ?_
      refine lv_iushr hx hb d_Sha_mix_40 rfl ?_
      refine lv_topi (fun x_7 _ => ?_)
      refine lv_iload_n hx hb d_Sha_mix_41 rfl (lv_at hl 1 rfl) ?_
      refine lv_bipush (v := 14) hx hb d_Sha_mix_42 (by decide) ?_
      refine lv_ishl hx hb d_Sha_mix_44 ?_
      refine lv_topi (fun x_8 _ => ?_)
      refine lv_ior hx hb d_Sha_mix_45 ?_
      refine lv_topi (fun x_9 _ => ?_)
      refine lv_ixor hx hb d_Sha_mix_46 ?_
      refine lv_topi (fun x_10 _ => ?_)
      refine lv_iload_n hx hb d_Sha_mix_47 rfl (lv_at hl 1 rfl) ?_
      refine lv_iconst (v := 3) hx hb d_Sha_mix_48 (by decide) ?_
      refine lv_iushr hx hb d_Sha_mix_49 rfl ?_
      refine lv_topi (fun x_11 _ => ?_)
      refine lv_ixor hx hb d_Sha_mix_50 ?_
      refine lv_topi (fun x_12 _ => ?_)
      refine lv_istore (lv' := [(4, .int x_12), (3, .int x_3), (2, .int x_2), (0, .ref h0), (1, .int (nI i))]) hx hb d_Sha_mix_51 hl (by decide) rfl (fun ls hl => ?_)
      refine lv_iload_n hx hb d_Sha_mix_53 rfl (lv_at hl 1 rfl) ?_
      refine lv_bipush (v := 17) hx hb d_Sha_mix_54 (by decide) ?_
      refine lv_iushr hx hb d_Sha_mix_56 rfl ?_
      refine lv_topi (fun x_13 _ => ?_)
      refine lv_iload_n hx hb d_Sha_mix_57 rfl (lv_at hl 1 rfl) ?_
      refine lv_bipush (v := 15) hx hb d_Sha_mix_58 (by decide) ?_
      refine lv_ishl hx hb d_Sha_mix_60 ?_
      refine lv_topi (fun x_14 _ => ?_)
      refine lv_ior hx hb d_Sha_mix_61 ?_
      refine lv_topi (fun x_15 _ => ?_)
      refine lv_iload_n hx hb d_Sha_mix_62 rfl (lv_at hl 1 rfl) ?_
      refine lv_bipush (v := 19) hx hb d_Sha_mix_63 (by decide) ?_
      refine lv_iushr hx hb d_Sha_mix_65 rfl ?_
      refine lv_topi (fun x_16 _ => ?_)
      refine lv_iload_n hx hb d_Sha_mix_66 rfl (lv_at hl 1 rfl) ?_
      refine lv_bipush (v := 13) hx hb d_Sha_mix_67 (by decide) ?_
      refine lv_ishl hx hb d_Sha_mix_69 ?_
      refine lv_topi (fun x_17 _ => ?_)
      refine lv_ior hx hb d_Sha_mix_70 ?_
      refine lv_topi (fun x_18 _ => ?_)
      refine lv_ixor hx hb d_Sha_mix_71 ?_
      refine lv_topi (fun x_19 _ => ?_)
      refine lv_iload_n hx hb d_Sha_mix_72 rfl (lv_at hl 1 rfl) ?_
      refine lv_bipush (v := 10) hx hb d_Sha_mix_73 (by decide) ?_
      refine lv_iushr hx hb d_Sha_mix_75 rfl ?_
      refine lv_topi (fun x_20 _ => ?_)
      refine lv_ixor hx hb d_Sha_mix_76 ?_
      refine lv_topi (fun x_21 _ => ?_)
      refine lv_istore (lv' := [(5, .int x_21), (4, .int x_12), (3, .int x_3), (2, .int x_2), (0, .ref h0), (1, .int (nI i))]) hx hb d_Sha_mix_77 hl (by decide) rfl (fun ls hl => ?_)
      refine lv_aload_n hx hb d_Sha_mix_79 rfl (lv_at hl 4 rfl) ?_
      refine va_get (D := (dC, dI)) (ci := 2) (v := .ref h1) (C := R_Sha) (T := F_Sha) (N := 2) hx hb hT i_Sha hown hK hP 0 rfl rfl 0 (by decide) (hT _ k_19) (fun _ h9 => h9) rfl d_Sha_mix_80 ?_
      refine lv_iload_n hx hb d_Sha_mix_83 rfl (lv_at hl 5 rfl) ?_
      refine lv_aload_n hx hb d_Sha_mix_84 rfl (lv_at hl 4 rfl) ?_
      refine va_get (D := (dC, dI)) (ci := 2) (v := .ref h1) (C := R_Sha) (T := F_Sha) (N := 2) hx hb hT i_Sha hown hK hP 0 rfl rfl 0 (by decide) (hT _ k_19) (fun _ h9 => h9) rfl d_Sha_mix_85 ?_
      refine lv_iload_n hx hb d_Sha_mix_88 rfl (lv_at hl 5 rfl) ?_
      refine lv_bipush (v := 16) hx hb d_Sha_mix_89 (by decide) ?_
      refine lv_isub hx hb d_Sha_mix_91 ?_
      refine zz_i (v := nI ((i) - 16)) (pk_sub (a := (i)) (b := 16) (by omega)) ?_
      refine va_iald hx hb hK hP 1 0 rfl rfl (vp_in_nI (by omega) (by omega)) d_Sha_mix_92 ?_
      refine lv_topi (fun x_22 _ => ?_)
      refine lv_iload hx hb d_Sha_mix_93 (lv_at hl 1 rfl) ?_
      refine lv_iadd hx hb d_Sha_mix_95 ?_
      refine lv_topi (fun x_23 _ => ?_)
      refine lv_aload_n hx hb d_Sha_mix_96 rfl (lv_at hl 4 rfl) ?_
      refine va_get (D := (dC, dI)) (ci := 2) (v := .ref h1) (C := R_Sha) (T := F_Sha) (N := 2) hx hb hT i_Sha hown hK hP 0 rfl rfl 0 (by decide) (hT _ k_19) (fun _ h9 => h9) rfl d_Sha_mix_97 ?_
      refine lv_iload_n hx hb d_Sha_mix_100 rfl (lv_at hl 5 rfl) ?_
      refine lv_bipush (v := 7) hx hb d_Sha_mix_101 (by decide) ?_
      refine lv_isub hx hb d_Sha_mix_103 ?_
      refine zz_i (v := nI ((i) - 7)) (pk_sub (a := (i)) (b := 7) (by omega)) ?_
      refine va_iald hx hb hK hP 1 0 rfl rfl (vp_in_nI (by omega) (by omega)) d_Sha_mix_104 ?_
      refine lv_topi (fun x_24 _ => ?_)
      refine lv_iadd hx hb d_Sha_mix_105 ?_
      refine lv_topi (fun x_25 _ => ?_)
      refine lv_iload hx hb d_Sha_mix_106 (lv_at hl 0 rfl) ?_
      refine lv_iadd hx hb d_Sha_mix_108 ?_
      refine lv_topi (fun x_26 _ => ?_)
      refine zz_iast hx hb hK hP hD hS 1 0 rfl rfl (vp_in_nI (by omega) (by omega)) d_Sha_mix_109 (fun f_27 H locs hP hD hS => ?_)
      have hP : va_P (dC, dI) cl_all [(h0, .inr (2, [.ref h1, .ref h2])), (h1, .inl (e1, 64, .inl f_27)), (h2, .inl (e2, 8, .inl f2))] H := hP
      have hD : va_D A [(h0, .inr (2, [.ref h1, .ref h2])), (h1, .inl (e1, 64, .inl f_27)), (h2, .inl (e2, 8, .inl f2))] := hD
      refine lv_iinc (v := (nI (i + 1))) (lv' := [(1, .int (nI (i + 1))), (5, .int x_21), (4, .int x_12), (3, .int x_3), (2, .int x_2), (0, .ref h0)]) hx hb d_Sha_mix_110 hl (k := 5) rfl (nI_add (i) 1) (by decide) rfl (fun ls hl => ?_)
      refine lv_goto (tgt := 3) hx hb d_Sha_mix_113 (by decide) ?_
      exact ih_3 (i + 1) f_27 _ _ _ (by omega) (by omega)  hP hD hS (lv_sub hl [5, 0] rfl) kx_3
  refine lp3_1 _ (64 - 16) 16 f1 _ _ _ (by omega) (by omega)  hP hD hS (lv_sub hl [1, 0] rfl) (fun f_28 H locs ls  hP hD hS hl => ?_)
  refine lv_aload_n hx hb d_Sha_mix_116 rfl (lv_at hl 0 rfl) ?_
  refine va_get (D := (dC, dI)) (ci := 2) (v := .ref h2) (C := R_Sha) (T := F_Sha) (N := 2) hx hb hT i_Sha hown hK hP 0 rfl rfl 1 (by decide) (hT _ k_20) (fun _ h9 => h9) rfl d_Sha_mix_117 ?_
  refine lv_iconst (v := 0) hx hb d_Sha_mix_120 (by decide) ?_
  refine va_iald hx hb hK hP 2 1 rfl rfl (by unfold vp_in; decide) d_Sha_mix_121 ?_
  refine lv_topi (fun x_29 _ => ?_)
  refine lv_istore_n (lv' := [(1, .int x_29), (0, .ref h0)]) hx hb d_Sha_mix_122 rfl hl (by decide) rfl (fun ls hl => ?_)
  refine lv_aload_n hx hb d_Sha_mix_123 rfl (lv_at hl 1 rfl) ?_
  refine va_get (D := (dC, dI)) (ci := 2) (v := .ref h2) (C := R_Sha) (T := F_Sha) (N := 2) hx hb hT i_Sha hown hK hP 0 rfl rfl 1 (by decide) (hT _ k_20) (fun _ h9 => h9) rfl d_Sha_mix_124 ?_
  refine lv_iconst (v := 1) hx hb d_Sha_mix_127 (by decide) ?_
  refine va_iald hx hb hK hP 2 1 rfl rfl (by unfold vp_in; decide) d_Sha_mix_128 ?_
  refine lv_topi (fun x_30 _ => ?_)
  refine lv_istore_n (lv' := [(2, .int x_30), (1, .int x_29), (0, .ref h0)]) hx hb d_Sha_mix_129 rfl hl (by decide) rfl (fun ls hl => ?_)
  refine lv_aload_n hx hb d_Sha_mix_130 rfl (lv_at hl 2 rfl) ?_
  refine va_get (D := (dC, dI)) (ci := 2) (v := .ref h2) (C := R_Sha) (T := F_Sha) (N := 2) hx hb hT i_Sha hown hK hP 0 rfl rfl 1 (by decide) (hT _ k_20) (fun _ h9 => h9) rfl d_Sha_mix_131 ?_
  refine lv_iconst (v := 2) hx hb d_Sha_mix_134 (by decide) ?_
  refine va_iald hx hb hK hP 2 1 rfl rfl (by unfold vp_in; decide) d_Sha_mix_135 ?_
  refine lv_topi (fun x_31 _ => ?_)
  refine lv_istore_n (lv' := [(3, .int x_31), (2, .int x_30), (1, .int x_29), (0, .ref h0)]) hx hb d_Sha_mix_136 rfl hl (by decide) rfl (fun ls hl => ?_)
  refine lv_aload_n hx hb d_Sha_mix_137 rfl (lv_at hl 3 rfl) ?_
  refine va_get (D := (dC, dI)) (ci := 2) (v := .ref h2) (C := R_Sha) (T := F_Sha) (N := 2) hx hb hT i_Sha hown hK hP 0 rfl rfl 1 (by decide) (hT _ k_20) (fun _ h9 => h9) rfl d_Sha_mix_138 ?_
  refine lv_iconst (v := 3) hx hb d_Sha_mix_141 (by decide) ?_
  refine va_iald hx hb hK hP 2 1 rfl rfl (by unfold vp_in; decide) d_Sha_mix_142 ?_
  refine lv_topi (fun x_32 _ => ?_)
  refine lv_istore (lv' := [(4, .int x_32), (3, .int x_31), (2, .int x_30), (1, .int x_29), (0, .ref h0)]) hx hb d_Sha_mix_143 hl (by decide) rfl (fun ls hl => ?_)
  refine lv_aload_n hx hb d_Sha_mix_145 rfl (lv_at hl 4 rfl) ?_
  refine va_get (D := (dC, dI)) (ci := 2) (v := .ref h2) (C := R_Sha) (T := F_Sha) (N := 2) hx hb hT i_Sha hown hK hP 0 rfl rfl 1 (by decide) (hT _ k_20) (fun _ h9 => h9) rfl d_Sha_mix_146 ?_
  refine lv_iconst (v := 4) hx hb d_Sha_mix_149 (by decide) ?_
  refine va_iald hx hb hK hP 2 1 rfl rfl (by unfold vp_in; decide) d_Sha_mix_150 ?_
  refine lv_topi (fun x_33 _ => ?_)
  refine lv_istore (lv' := [(5, .int x_33), (4, .int x_32), (3, .int x_31), (2, .int x_30), (1, .int x_29), (0, .ref h0)]) hx hb d_Sha_mix_151 hl (by decide) rfl (fun ls hl => ?_)
  refine lv_aload_n hx hb d_Sha_mix_153 rfl (lv_at hl 5 rfl) ?_
  refine va_get (D := (dC, dI)) (ci := 2) (v := .ref h2) (C := R_Sha) (T := F_Sha) (N := 2) hx hb hT i_Sha hown hK hP 0 rfl rfl 1 (by decide) (hT _ k_20) (fun _ h9 => h9) rfl d_Sha_mix_154 ?_
  refine lv_iconst (v := 5) hx hb d_Sha_mix_157 (by decide) ?_
  refine va_iald hx hb hK hP 2 1 rfl rfl (by unfold vp_in; decide) d_Sha_mix_158 ?_
  refine lv_topi (fun x_34 _ => ?_)
  refine lv_istore (lv' := [(6, .int x_34), (5, .int x_33), (4, .int x_32), (3, .int x_31), (2, .int x_30), (1, .int x_29), (0, .ref h0)]) hx hb d_Sha_mix_159 hl (by decide) rfl (fun ls hl => ?_)
  refine lv_aload_n hx hb d_Sha_mix_161 rfl (lv_at hl 6 rfl) ?_
  refine va_get (D := (dC, dI)) (ci := 2) (v := .ref h2) (C := R_Sha) (T := F_Sha) (N := 2) hx hb hT i_Sha hown hK hP 0 rfl rfl 1 (by decide) (hT _ k_20) (fun _ h9 => h9) rfl d_Sha_mix_162 ?_
  refine lv_bipush (v := 6) hx hb d_Sha_mix_165 (by decide) ?_
  refine va_iald hx hb hK hP 2 1 rfl rfl (by unfold vp_in; decide) d_Sha_mix_167 ?_
  refine lv_topi (fun x_35 _ => ?_)
  refine lv_istore (lv' := [(7, .int x_35), (6, .int x_34), (5, .int x_33), (4, .int x_32), (3, .int x_31), (2, .int x_30), (1, .int x_29), (0, .ref h0)]) hx hb d_Sha_mix_168 hl (by decide) rfl (fun ls hl => ?_)
  refine lv_aload_n hx hb d_Sha_mix_170 rfl (lv_at hl 7 rfl) ?_
  refine va_get (D := (dC, dI)) (ci := 2) (v := .ref h2) (C := R_Sha) (T := F_Sha) (N := 2) hx hb hT i_Sha hown hK hP 0 rfl rfl 1 (by decide) (hT _ k_20) (fun _ h9 => h9) rfl d_Sha_mix_171 ?_
  refine lv_bipush (v := 7) hx hb d_Sha_mix_174 (by decide) ?_
  refine va_iald hx hb hK hP 2 1 rfl rfl (by unfold vp_in; decide) d_Sha_mix_176 ?_
  refine lv_topi (fun x_36 _ => ?_)
  refine lv_istore (lv' := [(8, .int x_36), (7, .int x_35), (6, .int x_34), (5, .int x_33), (4, .int x_32), (3, .int x_31), (2, .int x_30), (1, .int x_29), (0, .ref h0)]) hx hb d_Sha_mix_177 hl (by decide) rfl (fun ls hl => ?_)
  refine lv_iconst (v := 0) hx hb d_Sha_mix_179 (by decide) ?_
  refine lv_istore (lv' := [(9, .int 0), (8, .int x_36), (7, .int x_35), (6, .int x_34), (5, .int x_33), (4, .int x_32), (3, .int x_31), (2, .int x_30), (1, .int x_29), (0, .ref h0)]) hx hb d_Sha_mix_180 hl (by decide) rfl (fun ls hl => ?_)
  have lp182_37 : ∀ (Q : State → Prop) (n i : Nat) (a b c9 d e9 f g h : Int32) (H : Heap) (locs : List Loc) (ls : Array Slot), i + n = 64 → 0 ≤ i → va_P (dC, dI) cl_all [(h0, .inr (2, [.ref h1, .ref h2])), (h1, .inl (e1, 64, .inl f_28)), (h2, .inl (e2, 8, .inl f2))] H → va_D A [(h0, .inr (2, [.ref h1, .ref h2])), (h1, .inl (e1, 64, .inl f_28)), (h2, .inl (e2, 8, .inl f2))] → va_S A s.heap H locs → lv_has ls 14 [(0, .ref h0), (1, .int a), (2, .int b), (3, .int c9), (4, .int d), (5, .int e9), (6, .int f), (7, .int g), (8, .int h), (9, .int (nI i))] → (∀ (a b c9 d e9 f g h : Int32) (H : Heap) (locs : List Loc) (ls : Array Slot), va_P (dC, dI) cl_all [(h0, .inr (2, [.ref h1, .ref h2])), (h1, .inl (e1, 64, .inl f_28)), (h2, .inl (e2, 8, .inl f2))] H → va_D A [(h0, .inr (2, [.ref h1, .ref h2])), (h1, .inl (e1, 64, .inl f_28)), (h2, .inl (e2, 8, .inl f2))] → va_S A s.heap H locs → lv_has ls 14 [(0, .ref h0), (1, .int a), (2, .int b), (3, .int c9), (4, .int d), (5, .int e9), (6, .int f), (7, .int g), (8, .int h), (9, .int (nI 64))] → W p l e (headSpec w_Sha_mix ({ frames := 0, cells := 0, slots := 0, locals := 0 })).room s m ([.ref h0] : List Value).toArray below meth c H locs 0 0 Q (F0 m 346 ls [])) → W p l e (headSpec w_Sha_mix ({ frames := 0, cells := 0, slots := 0, locals := 0 })).room s m ([.ref h0] : List Value).toArray below meth c H locs 0 0 Q (F0 m 182 ls []) := by
    intro Q n
    induction n with
    | zero =>
      intro i a b c9 d e9 f g h H locs ls hi_182 ha_182  hP hD hS hl kx_182
      have hi_182 : i = 64 := by omega
      subst hi_182
      refine lv_iload hx hb d_Sha_mix_182 (lv_at hl 9 rfl) ?_
      refine lv_bipush (v := 64) hx hb d_Sha_mix_184 (by decide) ?_
      refine lv_icmp_ge (tgt := 346) hx hb d_Sha_mix_186 (by decide) (fun _ => ?_) (fun h => absurd ((nI_leI (a := 64) (b := (64)) (by omega) (by omega)).mpr (by omega)) h)
      exact kx_182 a b c9 d e9 f g h _ _ _  hP hD hS (lv_sub hl [0, 1, 2, 3, 4, 5, 6, 7, 8, 9] rfl)
    | succ n ih_182 =>
      intro i a b c9 d e9 f g h H locs ls hi_182 ha_182  hP hD hS hl kx_182
      refine lv_iload hx hb d_Sha_mix_182 (lv_at hl 9 rfl) ?_
      refine lv_bipush (v := 64) hx hb d_Sha_mix_184 (by decide) ?_
      refine lv_icmp_ge (tgt := 346) hx hb d_Sha_mix_186 (by decide) (fun h => absurd h (fun h9 => absurd ((nI_leI (a := 64) (b := (i)) (by omega) (by omega)).mp h9) (by omega))) (fun _ => ?_)
      refine lv_iload hx hb d_Sha_mix_189 (lv_at hl 5 rfl) ?_
      refine lv_bipush (v := 6) hx hb d_Sha_mix_191 (by decide) ?_
      refine lv_iushr hx hb d_Sha_mix_193 rfl ?_
      refine lv_topi (fun x_38 _ => ?_)
      refine lv_iload hx hb d_Sha_mix_194 (lv_at hl 5 rfl) ?_
      refine lv_bipush (v := 26) hx hb d_Sha_mix_196 (by decide) ?_
      refine lv_ishl hx hb d_Sha_mix_198 ?_
      refine lv_topi (fun x_39 _ => ?_)
      refine lv_ior hx hb d_Sha_mix_199 ?_
      refine lv_topi (fun x_40 _ => ?_)
      refine lv_iload hx hb d_Sha_mix_200 (lv_at hl 5 rfl) ?_
      refine lv_bipush (v := 11) hx hb d_Sha_mix_202 (by decide) ?_
      refine lv_iushr hx hb d_Sha_mix_204 rfl ?_
      refine lv_topi (fun x_41 _ => ?_)
      refine lv_iload hx hb d_Sha_mix_205 (lv_at hl 5 rfl) ?_
      refine lv_bipush (v := 21) hx hb d_Sha_mix_207 (by decide) ?_
      refine lv_ishl hx hb d_Sha_mix_209 ?_
      refine lv_topi (fun x_42 _ => ?_)
      refine lv_ior hx hb d_Sha_mix_210 ?_
      refine lv_topi (fun x_43 _ => ?_)
      refine lv_ixor hx hb d_Sha_mix_211 ?_
      refine lv_topi (fun x_44 _ => ?_)
      refine lv_iload hx hb d_Sha_mix_212 (lv_at hl 5 rfl) ?_
      refine lv_bipush (v := 25) hx hb d_Sha_mix_214 (by decide) ?_
      refine lv_iushr hx hb d_Sha_mix_216 rfl ?_
      refine lv_topi (fun x_45 _ => ?_)
      refine lv_iload hx hb d_Sha_mix_217 (lv_at hl 5 rfl) ?_
      refine lv_bipush (v := 7) hx hb d_Sha_mix_219 (by decide) ?_
      refine lv_ishl hx hb d_Sha_mix_221 ?_
      refine lv_topi (fun x_46 _ => ?_)
      refine lv_ior hx hb d_Sha_mix_222 ?_
      refine lv_topi (fun x_47 _ => ?_)
      refine lv_ixor hx hb d_Sha_mix_223 ?_
      refine lv_topi (fun x_48 _ => ?_)
      refine lv_istore (lv' := [(10, .int x_48), (0, .ref h0), (1, .int a), (2, .int b), (3, .int c9), (4, .int d), (5, .int e9), (6, .int f), (7, .int g), (8, .int h), (9, .int (nI i))]) hx hb d_Sha_mix_224 hl (by decide) rfl (fun ls hl => ?_)
      refine lv_iload hx hb d_Sha_mix_226 (lv_at hl 9 rfl) ?_
      refine lv_iload hx hb d_Sha_mix_228 (lv_at hl 0 rfl) ?_
      refine lv_iadd hx hb d_Sha_mix_230 ?_
      refine lv_topi (fun x_49 _ => ?_)
      refine lv_iload hx hb d_Sha_mix_231 (lv_at hl 6 rfl) ?_
      refine lv_iload hx hb d_Sha_mix_233 (lv_at hl 7 rfl) ?_
      refine lv_iand hx hb d_Sha_mix_235 ?_
      refine lv_topi (fun x_50 _ => ?_)
      refine lv_iload hx hb d_Sha_mix_236 (lv_at hl 6 rfl) ?_
      refine lv_iconst (v := -1) hx hb d_Sha_mix_238 (by decide) ?_
      refine lv_ixor hx hb d_Sha_mix_239 ?_
      refine lv_topi (fun x_51 _ => ?_)
      refine lv_iload hx hb d_Sha_mix_240 (lv_at hl 8 rfl) ?_
      refine lv_iand hx hb d_Sha_mix_242 ?_
      refine lv_topi (fun x_52 _ => ?_)
      refine lv_ixor hx hb d_Sha_mix_243 ?_
      refine lv_topi (fun x_53 _ => ?_)
      refine lv_iadd hx hb d_Sha_mix_244 ?_
      refine lv_topi (fun x_54 _ => ?_)
      refine va_gets hx hb hZ.2.2.2.1 hS hown (hT _ k_113) (fun _ h9 => h9) d_Sha_mix_245 ?_
      refine lv_iload hx hb d_Sha_mix_248 (lv_at hl 10 rfl) ?_
      refine va_ti hx hb hZ.2.2.2.2.1 hS (vp_in_nI (by omega) (by omega)) rfl d_Sha_mix_250 ?_
      refine lv_topi (fun x_55 _ => ?_)
      refine lv_iadd hx hb d_Sha_mix_251 ?_
      refine lv_topi (fun x_56 _ => ?_)
      refine lv_aload_n hx hb d_Sha_mix_252 rfl (lv_at hl 1 rfl) ?_
      refine va_get (D := (dC, dI)) (ci := 2) (v := .ref h1) (C := R_Sha) (T := F_Sha) (N := 2) hx hb hT i_Sha hown hK hP 0 rfl rfl 0 (by decide) (hT _ k_19) (fun _ h9 => h9) rfl d_Sha_mix_253 ?_
      refine lv_iload hx hb d_Sha_mix_256 (lv_at hl 10 rfl) ?_
      refine va_iald hx hb hK hP 1 0 rfl rfl (vp_in_nI (by omega) (by omega)) d_Sha_mix_258 ?_
      refine lv_topi (fun x_57 _ => ?_)
      refine lv_iadd hx hb d_Sha_mix_259 ?_
      refine lv_topi (fun x_58 _ => ?_)
      refine lv_istore (lv' := [(11, .int x_58), (10, .int x_48), (0, .ref h0), (1, .int a), (2, .int b), (3, .int c9), (4, .int d), (5, .int e9), (6, .int f), (7, .int g), (8, .int h), (9, .int (nI i))]) hx hb d_Sha_mix_260 hl (by decide) rfl (fun ls hl => ?_)
      refine lv_iload_n hx hb d_Sha_mix_262 rfl (lv_at hl 3 rfl) ?_
      refine lv_iconst (v := 2) hx hb d_Sha_mix_263 (by decide) ?_
      refine lv_iushr hx hb d_Sha_mix_264 rfl ?_
      refine lv_topi (fun x_59 _ => ?_)
      refine lv_iload_n hx hb d_Sha_mix_265 rfl (lv_at hl 3 rfl) ?_
      refine lv_bipush (v := 30) hx hb d_Sha_mix_266 (by decide) ?_
      refine lv_ishl hx hb d_Sha_mix_268 ?_
      refine lv_topi (fun x_60 _ => ?_)
      refine lv_ior hx hb d_Sha_mix_269 ?_
      refine lv_topi (fun x_61 _ => ?_)
      refine lv_iload_n hx hb d_Sha_mix_270 rfl (lv_at hl 3 rfl) ?_
      refine lv_bipush (v := 13) hx hb d_Sha_mix_271 (by decide) ?_
      refine lv_iushr hx hb d_Sha_mix_273 rfl ?_
      refine lv_topi (fun x_62 _ => ?_)
      refine lv_iload_n hx hb d_Sha_mix_274 rfl (lv_at hl 3 rfl) ?_
      refine lv_bipush (v := 19) hx hb d_Sha_mix_275 (by decide) ?_
      refine lv_ishl hx hb d_Sha_mix_277 ?_
      refine lv_topi (fun x_63 _ => ?_)
      refine lv_ior hx hb d_Sha_mix_278 ?_
      refine lv_topi (fun x_64 _ => ?_)
      refine lv_ixor hx hb d_Sha_mix_279 ?_
      refine lv_topi (fun x_65 _ => ?_)
      refine lv_iload_n hx hb d_Sha_mix_280 rfl (lv_at hl 3 rfl) ?_
      refine lv_bipush (v := 22) hx hb d_Sha_mix_281 (by decide) ?_
      refine lv_iushr hx hb d_Sha_mix_283 rfl ?_
      refine lv_topi (fun x_66 _ => ?_)
      refine lv_iload_n hx hb d_Sha_mix_284 rfl (lv_at hl 3 rfl) ?_
      refine lv_bipush (v := 10) hx hb d_Sha_mix_285 (by decide) ?_
      refine lv_ishl hx hb d_Sha_mix_287 ?_
      refine lv_topi (fun x_67 _ => ?_)
      refine lv_ior hx hb d_Sha_mix_288 ?_
      refine lv_topi (fun x_68 _ => ?_)
      refine lv_ixor hx hb d_Sha_mix_289 ?_
      refine lv_topi (fun x_69 _ => ?_)
      refine lv_istore (lv' := [(12, .int x_69), (11, .int x_58), (10, .int x_48), (0, .ref h0), (1, .int a), (2, .int b), (3, .int c9), (4, .int d), (5, .int e9), (6, .int f), (7, .int g), (8, .int h), (9, .int (nI i))]) hx hb d_Sha_mix_290 hl (by decide) rfl (fun ls hl => ?_)
      refine lv_iload hx hb d_Sha_mix_292 (lv_at hl 0 rfl) ?_
      refine lv_iload_n hx hb d_Sha_mix_294 rfl (lv_at hl 4 rfl) ?_
      refine lv_iload_n hx hb d_Sha_mix_295 rfl (lv_at hl 5 rfl) ?_
      refine lv_iand hx hb d_Sha_mix_296 ?_
      refine lv_topi (fun x_70 _ => ?_)
      refine lv_iload_n hx hb d_Sha_mix_297 rfl (lv_at hl 4 rfl) ?_
      refine lv_iload_n hx hb d_Sha_mix_298 rfl (lv_at hl 6 rfl) ?_
      refine lv_iand hx hb d_Sha_mix_299 ?_
      refine lv_topi (fun x_71 _ => ?_)
      refine lv_ixor hx hb d_Sha_mix_300 ?_
      refine lv_topi (fun x_72 _ => ?_)
      refine lv_iload_n hx hb d_Sha_mix_301 rfl (lv_at hl 5 rfl) ?_
      refine lv_iload_n hx hb d_Sha_mix_302 rfl (lv_at hl 6 rfl) ?_
      refine lv_iand hx hb d_Sha_mix_303 ?_
      refine lv_topi (fun x_73 _ => ?_)
      refine lv_ixor hx hb d_Sha_mix_304 ?_
      refine lv_topi (fun x_74 _ => ?_)
      refine lv_iadd hx hb d_Sha_mix_305 ?_
      refine lv_topi (fun x_75 _ => ?_)
      refine lv_istore (lv' := [(13, .int x_75), (12, .int x_69), (11, .int x_58), (10, .int x_48), (0, .ref h0), (1, .int a), (2, .int b), (3, .int c9), (4, .int d), (5, .int e9), (6, .int f), (7, .int g), (8, .int h), (9, .int (nI i))]) hx hb d_Sha_mix_306 hl (by decide) rfl (fun ls hl => ?_)
      refine lv_iload hx hb d_Sha_mix_308 (lv_at hl 11 rfl) ?_
      refine lv_istore (lv' := [(8, .int g), (13, .int x_75), (12, .int x_69), (11, .int x_58), (10, .int x_48), (0, .ref h0), (1, .int a), (2, .int b), (3, .int c9), (4, .int d), (5, .int e9), (6, .int f), (7, .int g), (9, .int (nI i))]) hx hb d_Sha_mix_310 hl (by decide) rfl (fun ls hl => ?_)
      refine lv_iload hx hb d_Sha_mix_312 (lv_at hl 11 rfl) ?_
      refine lv_istore (lv' := [(7, .int f), (8, .int g), (13, .int x_75), (12, .int x_69), (11, .int x_58), (10, .int x_48), (0, .ref h0), (1, .int a), (2, .int b), (3, .int c9), (4, .int d), (5, .int e9), (6, .int f), (9, .int (nI i))]) hx hb d_Sha_mix_314 hl (by decide) rfl (fun ls hl => ?_)
      refine lv_iload hx hb d_Sha_mix_316 (lv_at hl 11 rfl) ?_
      refine lv_istore (lv' := [(6, .int e9), (7, .int f), (8, .int g), (13, .int x_75), (12, .int x_69), (11, .int x_58), (10, .int x_48), (0, .ref h0), (1, .int a), (2, .int b), (3, .int c9), (4, .int d), (5, .int e9), (9, .int (nI i))]) hx hb d_Sha_mix_318 hl (by decide) rfl (fun ls hl => ?_)
      refine lv_iload hx hb d_Sha_mix_320 (lv_at hl 11 rfl) ?_
      refine lv_iload hx hb d_Sha_mix_322 (lv_at hl 5 rfl) ?_
      refine lv_iadd hx hb d_Sha_mix_324 ?_
      refine lv_topi (fun x_76 _ => ?_)
      refine lv_istore (lv' := [(5, .int x_76), (6, .int e9), (7, .int f), (8, .int g), (13, .int x_75), (12, .int x_69), (11, .int x_58), (10, .int x_48), (0, .ref h0), (1, .int a), (2, .int b), (3, .int c9), (4, .int d), (9, .int (nI i))]) hx hb d_Sha_mix_325 hl (by decide) rfl (fun ls hl => ?_)
      refine lv_iload_n hx hb d_Sha_mix_327 rfl (lv_at hl 11 rfl) ?_
      refine lv_istore (lv' := [(4, .int c9), (5, .int x_76), (6, .int e9), (7, .int f), (8, .int g), (13, .int x_75), (12, .int x_69), (11, .int x_58), (10, .int x_48), (0, .ref h0), (1, .int a), (2, .int b), (3, .int c9), (9, .int (nI i))]) hx hb d_Sha_mix_328 hl (by decide) rfl (fun ls hl => ?_)
      refine lv_iload_n hx hb d_Sha_mix_330 rfl (lv_at hl 11 rfl) ?_
      refine lv_istore_n (lv' := [(3, .int b), (4, .int c9), (5, .int x_76), (6, .int e9), (7, .int f), (8, .int g), (13, .int x_75), (12, .int x_69), (11, .int x_58), (10, .int x_48), (0, .ref h0), (1, .int a), (2, .int b), (9, .int (nI i))]) hx hb d_Sha_mix_331 rfl hl (by decide) rfl (fun ls hl => ?_)
      refine lv_iload_n hx hb d_Sha_mix_332 rfl (lv_at hl 11 rfl) ?_
      refine lv_istore_n (lv' := [(2, .int a), (3, .int b), (4, .int c9), (5, .int x_76), (6, .int e9), (7, .int f), (8, .int g), (13, .int x_75), (12, .int x_69), (11, .int x_58), (10, .int x_48), (0, .ref h0), (1, .int a), (9, .int (nI i))]) hx hb d_Sha_mix_333 rfl hl (by decide) rfl (fun ls hl => ?_)
      refine lv_iload hx hb d_Sha_mix_334 (lv_at hl 9 rfl) ?_
      refine lv_iload hx hb d_Sha_mix_336 (lv_at hl 7 rfl) ?_
      refine lv_iadd hx hb d_Sha_mix_338 ?_
      refine lv_topi (fun x_77 _ => ?_)
      refine lv_istore_n (lv' := [(1, .int x_77), (2, .int a), (3, .int b), (4, .int c9), (5, .int x_76), (6, .int e9), (7, .int f), (8, .int g), (13, .int x_75), (12, .int x_69), (11, .int x_58), (10, .int x_48), (0, .ref h0), (9, .int (nI i))]) hx hb d_Sha_mix_339 rfl hl (by decide) rfl (fun ls hl => ?_)
      refine lv_iinc (v := (nI (i + 1))) (lv' := [(9, .int (nI (i + 1))), (1, .int x_77), (2, .int a), (3, .int b), (4, .int c9), (5, .int x_76), (6, .int e9), (7, .int f), (8, .int g), (13, .int x_75), (12, .int x_69), (11, .int x_58), (10, .int x_48), (0, .ref h0)]) hx hb d_Sha_mix_340 hl (k := 13) rfl (nI_add (i) 1) (by decide) rfl (fun ls hl => ?_)
      refine lv_goto (tgt := 182) hx hb d_Sha_mix_343 (by decide) ?_
      exact ih_182 (i + 1) x_77 a b c9 x_76 e9 f g _ _ _ (by omega) (by omega)  hP hD hS (lv_sub hl [13, 1, 2, 3, 4, 5, 6, 7, 8, 0] rfl) kx_182
  refine lp182_37 _ (64 - 0) 0 x_29 x_30 x_31 x_32 x_33 x_34 x_35 x_36 _ _ _ (by omega) (by omega)  hP hD hS (lv_sub hl [9, 8, 7, 6, 5, 4, 3, 2, 1, 0] rfl) (fun x_78 x_79 x_80 x_81 x_82 x_83 x_84 x_85 H locs ls  hP hD hS hl => ?_)
  refine lv_aload_n hx hb d_Sha_mix_346 rfl (lv_at hl 0 rfl) ?_
  refine va_get (D := (dC, dI)) (ci := 2) (v := .ref h2) (C := R_Sha) (T := F_Sha) (N := 2) hx hb hT i_Sha hown hK hP 0 rfl rfl 1 (by decide) (hT _ k_20) (fun _ h9 => h9) rfl d_Sha_mix_347 ?_
  refine lv_iconst (v := 0) hx hb d_Sha_mix_350 (by decide) ?_
  refine lv_dup2_11 hx hb d_Sha_mix_351 rfl rfl ?_
  refine va_iald hx hb hK hP 2 1 rfl rfl (by unfold vp_in; decide) d_Sha_mix_352 ?_
  refine lv_topi (fun x_86 _ => ?_)
  refine lv_iload_n hx hb d_Sha_mix_353 rfl (lv_at hl 1 rfl) ?_
  refine lv_iadd hx hb d_Sha_mix_354 ?_
  refine lv_topi (fun x_87 _ => ?_)
  refine zz_iast hx hb hK hP hD hS 2 1 rfl rfl (by unfold vp_in; decide) d_Sha_mix_355 (fun f_88 H locs hP hD hS => ?_)
  have hP : va_P (dC, dI) cl_all [(h0, .inr (2, [.ref h1, .ref h2])), (h1, .inl (e1, 64, .inl f_28)), (h2, .inl (e2, 8, .inl f_88))] H := hP
  have hD : va_D A [(h0, .inr (2, [.ref h1, .ref h2])), (h1, .inl (e1, 64, .inl f_28)), (h2, .inl (e2, 8, .inl f_88))] := hD
  refine lv_aload_n hx hb d_Sha_mix_356 rfl (lv_at hl 0 rfl) ?_
  refine va_get (D := (dC, dI)) (ci := 2) (v := .ref h2) (C := R_Sha) (T := F_Sha) (N := 2) hx hb hT i_Sha hown hK hP 0 rfl rfl 1 (by decide) (hT _ k_20) (fun _ h9 => h9) rfl d_Sha_mix_357 ?_
  refine lv_iconst (v := 1) hx hb d_Sha_mix_360 (by decide) ?_
  refine lv_dup2_11 hx hb d_Sha_mix_361 rfl rfl ?_
  refine va_iald hx hb hK hP 2 1 rfl rfl (by unfold vp_in; decide) d_Sha_mix_362 ?_
  refine lv_topi (fun x_89 _ => ?_)
  refine lv_iload_n hx hb d_Sha_mix_363 rfl (lv_at hl 2 rfl) ?_
  refine lv_iadd hx hb d_Sha_mix_364 ?_
  refine lv_topi (fun x_90 _ => ?_)
  refine zz_iast hx hb hK hP hD hS 2 1 rfl rfl (by unfold vp_in; decide) d_Sha_mix_365 (fun f_91 H locs hP hD hS => ?_)
  have hP : va_P (dC, dI) cl_all [(h0, .inr (2, [.ref h1, .ref h2])), (h1, .inl (e1, 64, .inl f_28)), (h2, .inl (e2, 8, .inl f_91))] H := hP
  have hD : va_D A [(h0, .inr (2, [.ref h1, .ref h2])), (h1, .inl (e1, 64, .inl f_28)), (h2, .inl (e2, 8, .inl f_91))] := hD
  refine lv_aload_n hx hb d_Sha_mix_366 rfl (lv_at hl 0 rfl) ?_
  refine va_get (D := (dC, dI)) (ci := 2) (v := .ref h2) (C := R_Sha) (T := F_Sha) (N := 2) hx hb hT i_Sha hown hK hP 0 rfl rfl 1 (by decide) (hT _ k_20) (fun _ h9 => h9) rfl d_Sha_mix_367 ?_
  refine lv_iconst (v := 2) hx hb d_Sha_mix_370 (by decide) ?_
  refine lv_dup2_11 hx hb d_Sha_mix_371 rfl rfl ?_
  refine va_iald hx hb hK hP 2 1 rfl rfl (by unfold vp_in; decide) d_Sha_mix_372 ?_
  refine lv_topi (fun x_92 _ => ?_)
  refine lv_iload_n hx hb d_Sha_mix_373 rfl (lv_at hl 3 rfl) ?_
  refine lv_iadd hx hb d_Sha_mix_374 ?_
  refine lv_topi (fun x_93 _ => ?_)
  refine zz_iast hx hb hK hP hD hS 2 1 rfl rfl (by unfold vp_in; decide) d_Sha_mix_375 (fun f_94 H locs hP hD hS => ?_)
  have hP : va_P (dC, dI) cl_all [(h0, .inr (2, [.ref h1, .ref h2])), (h1, .inl (e1, 64, .inl f_28)), (h2, .inl (e2, 8, .inl f_94))] H := hP
  have hD : va_D A [(h0, .inr (2, [.ref h1, .ref h2])), (h1, .inl (e1, 64, .inl f_28)), (h2, .inl (e2, 8, .inl f_94))] := hD
  refine lv_aload_n hx hb d_Sha_mix_376 rfl (lv_at hl 0 rfl) ?_
  refine va_get (D := (dC, dI)) (ci := 2) (v := .ref h2) (C := R_Sha) (T := F_Sha) (N := 2) hx hb hT i_Sha hown hK hP 0 rfl rfl 1 (by decide) (hT _ k_20) (fun _ h9 => h9) rfl d_Sha_mix_377 ?_
  refine lv_iconst (v := 3) hx hb d_Sha_mix_380 (by decide) ?_
  refine lv_dup2_11 hx hb d_Sha_mix_381 rfl rfl ?_
  refine va_iald hx hb hK hP 2 1 rfl rfl (by unfold vp_in; decide) d_Sha_mix_382 ?_
  refine lv_topi (fun x_95 _ => ?_)
  refine lv_iload hx hb d_Sha_mix_383 (lv_at hl 4 rfl) ?_
  refine lv_iadd hx hb d_Sha_mix_385 ?_
  refine lv_topi (fun x_96 _ => ?_)
  refine zz_iast hx hb hK hP hD hS 2 1 rfl rfl (by unfold vp_in; decide) d_Sha_mix_386 (fun f_97 H locs hP hD hS => ?_)
  have hP : va_P (dC, dI) cl_all [(h0, .inr (2, [.ref h1, .ref h2])), (h1, .inl (e1, 64, .inl f_28)), (h2, .inl (e2, 8, .inl f_97))] H := hP
  have hD : va_D A [(h0, .inr (2, [.ref h1, .ref h2])), (h1, .inl (e1, 64, .inl f_28)), (h2, .inl (e2, 8, .inl f_97))] := hD
  refine lv_aload_n hx hb d_Sha_mix_387 rfl (lv_at hl 0 rfl) ?_
  refine va_get (D := (dC, dI)) (ci := 2) (v := .ref h2) (C := R_Sha) (T := F_Sha) (N := 2) hx hb hT i_Sha hown hK hP 0 rfl rfl 1 (by decide) (hT _ k_20) (fun _ h9 => h9) rfl d_Sha_mix_388 ?_
  refine lv_iconst (v := 4) hx hb d_Sha_mix_391 (by decide) ?_
  refine lv_dup2_11 hx hb d_Sha_mix_392 rfl rfl ?_
  refine va_iald hx hb hK hP 2 1 rfl rfl (by unfold vp_in; decide) d_Sha_mix_393 ?_
  refine lv_topi (fun x_98 _ => ?_)
  refine lv_iload hx hb d_Sha_mix_394 (lv_at hl 5 rfl) ?_
  refine lv_iadd hx hb d_Sha_mix_396 ?_
  refine lv_topi (fun x_99 _ => ?_)
  refine zz_iast hx hb hK hP hD hS 2 1 rfl rfl (by unfold vp_in; decide) d_Sha_mix_397 (fun f_100 H locs hP hD hS => ?_)
  have hP : va_P (dC, dI) cl_all [(h0, .inr (2, [.ref h1, .ref h2])), (h1, .inl (e1, 64, .inl f_28)), (h2, .inl (e2, 8, .inl f_100))] H := hP
  have hD : va_D A [(h0, .inr (2, [.ref h1, .ref h2])), (h1, .inl (e1, 64, .inl f_28)), (h2, .inl (e2, 8, .inl f_100))] := hD
  refine lv_aload_n hx hb d_Sha_mix_398 rfl (lv_at hl 0 rfl) ?_
  refine va_get (D := (dC, dI)) (ci := 2) (v := .ref h2) (C := R_Sha) (T := F_Sha) (N := 2) hx hb hT i_Sha hown hK hP 0 rfl rfl 1 (by decide) (hT _ k_20) (fun _ h9 => h9) rfl d_Sha_mix_399 ?_
  refine lv_iconst (v := 5) hx hb d_Sha_mix_402 (by decide) ?_
  refine lv_dup2_11 hx hb d_Sha_mix_403 rfl rfl ?_
  refine va_iald hx hb hK hP 2 1 rfl rfl (by unfold vp_in; decide) d_Sha_mix_404 ?_
  refine lv_topi (fun x_101 _ => ?_)
  refine lv_iload hx hb d_Sha_mix_405 (lv_at hl 6 rfl) ?_
  refine lv_iadd hx hb d_Sha_mix_407 ?_
  refine lv_topi (fun x_102 _ => ?_)
  refine zz_iast hx hb hK hP hD hS 2 1 rfl rfl (by unfold vp_in; decide) d_Sha_mix_408 (fun f_103 H locs hP hD hS => ?_)
  have hP : va_P (dC, dI) cl_all [(h0, .inr (2, [.ref h1, .ref h2])), (h1, .inl (e1, 64, .inl f_28)), (h2, .inl (e2, 8, .inl f_103))] H := hP
  have hD : va_D A [(h0, .inr (2, [.ref h1, .ref h2])), (h1, .inl (e1, 64, .inl f_28)), (h2, .inl (e2, 8, .inl f_103))] := hD
  refine lv_aload_n hx hb d_Sha_mix_409 rfl (lv_at hl 0 rfl) ?_
  refine va_get (D := (dC, dI)) (ci := 2) (v := .ref h2) (C := R_Sha) (T := F_Sha) (N := 2) hx hb hT i_Sha hown hK hP 0 rfl rfl 1 (by decide) (hT _ k_20) (fun _ h9 => h9) rfl d_Sha_mix_410 ?_
  refine lv_bipush (v := 6) hx hb d_Sha_mix_413 (by decide) ?_
  refine lv_dup2_11 hx hb d_Sha_mix_415 rfl rfl ?_
  refine va_iald hx hb hK hP 2 1 rfl rfl (by unfold vp_in; decide) d_Sha_mix_416 ?_
  refine lv_topi (fun x_104 _ => ?_)
  refine lv_iload hx hb d_Sha_mix_417 (lv_at hl 7 rfl) ?_
  refine lv_iadd hx hb d_Sha_mix_419 ?_
  refine lv_topi (fun x_105 _ => ?_)
  refine zz_iast hx hb hK hP hD hS 2 1 rfl rfl (by unfold vp_in; decide) d_Sha_mix_420 (fun f_106 H locs hP hD hS => ?_)
  have hP : va_P (dC, dI) cl_all [(h0, .inr (2, [.ref h1, .ref h2])), (h1, .inl (e1, 64, .inl f_28)), (h2, .inl (e2, 8, .inl f_106))] H := hP
  have hD : va_D A [(h0, .inr (2, [.ref h1, .ref h2])), (h1, .inl (e1, 64, .inl f_28)), (h2, .inl (e2, 8, .inl f_106))] := hD
  refine lv_aload_n hx hb d_Sha_mix_421 rfl (lv_at hl 0 rfl) ?_
  refine va_get (D := (dC, dI)) (ci := 2) (v := .ref h2) (C := R_Sha) (T := F_Sha) (N := 2) hx hb hT i_Sha hown hK hP 0 rfl rfl 1 (by decide) (hT _ k_20) (fun _ h9 => h9) rfl d_Sha_mix_422 ?_
  refine lv_bipush (v := 7) hx hb d_Sha_mix_425 (by decide) ?_
  refine lv_dup2_11 hx hb d_Sha_mix_427 rfl rfl ?_
  refine va_iald hx hb hK hP 2 1 rfl rfl (by unfold vp_in; decide) d_Sha_mix_428 ?_
  refine lv_topi (fun x_107 _ => ?_)
  refine lv_iload hx hb d_Sha_mix_429 (lv_at hl 8 rfl) ?_
  refine lv_iadd hx hb d_Sha_mix_431 ?_
  refine lv_topi (fun x_108 _ => ?_)
  refine zz_iast hx hb hK hP hD hS 2 1 rfl rfl (by unfold vp_in; decide) d_Sha_mix_432 (fun f_109 H locs hP hD hS => ?_)
  have hP : va_P (dC, dI) cl_all [(h0, .inr (2, [.ref h1, .ref h2])), (h1, .inl (e1, 64, .inl f_28)), (h2, .inl (e2, 8, .inl f_109))] H := hP
  have hD : va_D A [(h0, .inr (2, [.ref h1, .ref h2])), (h1, .inl (e1, 64, .inl f_28)), (h2, .inl (e2, 8, .inl f_109))] := hD
  have hP9 := hP.sub (ws' := [(h0, .inr (2, [.ref h1, .ref h2])), (h1, .inl (e1, 64, .inl f_28)), (h2, .inl (e2, 8, .inl f_109))]) [0, 1, 2] rfl
  have hD9 := hD.sub (ws' := [(h0, .inr (2, [.ref h1, .ref h2])), (h1, .inl (e1, 64, .inl f_28)), (h2, .inl (e2, 8, .inl f_109))]) [0, 1, 2] (by decide) rfl
  have hK9 := hK.sub (tys' := []) [] rfl
  exact W.vret hx hb hr (fun t9 ht9 hW9 => ⟨⟨(), rfl, trivial, ⟨f_28, f_109, by rw [ht9]; exact hP9, va_K.moved hW9.alike hK9, hD9⟩⟩, hS.F ht9⟩) hS.2.2 d_Sha_mix_433
set_option maxHeartbeats 4000000 in
set_option maxRecDepth 100000 in
/-- digest, twice, of the drafted first payment -/
theorem c_Sha_digest (l : Launch) (dC : Nat → ClassId) (dI : Nat → Nat → Nat) (z : zT) (sz : Nat) (h0 h1 h2 h3 h4 : Nat) (e1 e2 e3 e4 : ClassId) (f1 f2 f3 f4 : Nat → Int32) (hf_f4 : sb_Fit f4) : Met l y_Sha_digest w_Sha_digest ({ frames := 1, cells := 0, slots := 0, locals := 33 }) (va_Pc [.ref h0, .ref h3, .int 77, .int 17, .int 2, .ref h4, .int 0] (fun U => U.heap.size = sz ∧ va_P (dC, dI) cl_all [(h0, .inr (2, [.ref h1, .ref h2])), (h1, .inl (e1, 64, .inl f1)), (h2, .inl (e2, 8, .inl f2)), (h3, .inl (e3, 4096, .inl f3)), (h4, .inl (e4, 1024, .inl f4))] U.heap ∧ va_K (dC, dI) cl_all [(e1, .int), (e2, .int), (e3, .byte), (e4, .byte)] U ∧ va_D (fun _ => True) [(h0, .inr (2, [.ref h1, .ref h2])), (h1, .inl (e1, 64, .inl f1)), (h2, .inl (e2, 8, .inl f2)), (h3, .inl (e3, 4096, .inl f3)), (h4, .inl (e4, 1024, .inl f4))] ∧ zz z (va_A [(h0, .inr (2, [.ref h1, .ref h2])), (h1, .inl (e1, 64, .inl f1)), (h2, .inl (e2, 8, .inl f2)), (h3, .inl (e3, 4096, .inl f3)), (h4, .inl (e4, 1024, .inl f4))] sz) U U.heap)) (va_Qv (fun _ : Unit => True) (fun _ t => ∃ (g1 : Nat → Int32) (g2 : Nat → Int32) (g4 : Nat → Int32), sb_Fit g4 ∧ va_P (dC, dI) cl_all [(h0, .inr (2, [.ref h1, .ref h2])), (h1, .inl (e1, 64, .inl g1)), (h2, .inl (e2, 8, .inl g2)), (h3, .inl (e3, 4096, .inl f3)), (h4, .inl (e4, 1024, .inl g4))] t.heap ∧ va_K (dC, dI) cl_all [] t ∧ va_D (va_A [(h0, .inr (2, [.ref h1, .ref h2])), (h1, .inl (e1, 64, .inl f1)), (h2, .inl (e2, 8, .inl f2)), (h3, .inl (e3, 4096, .inl f3)), (h4, .inl (e4, 1024, .inl f4))] sz) [(h0, .inr (2, [.ref h1, .ref h2])), (h1, .inl (e1, 64, .inl g1)), (h2, .inl (e2, 8, .inl g2)), (h3, .inl (e3, 4096, .inl f3)), (h4, .inl (e4, 1024, .inl g4))]) (va_A [(h0, .inr (2, [.ref h1, .ref h2])), (h1, .inl (e1, 64, .inl f1)), (h2, .inl (e2, 8, .inl f2)), (h3, .inl (e3, 4096, .inl f3)), (h4, .inl (e4, 1024, .inl f4))] sz)) 0 0 (va_A [(h0, .inr (2, [.ref h1, .ref h2])), (h1, .inl (e1, 64, .inl f1)), (h2, .inl (e2, 8, .inl f2)), (h3, .inl (e3, 4096, .inl f3)), (h4, .inl (e4, 1024, .inl f4))] sz) := by
  refine Met.ofW (cc := b_Sha_digest) (maxL := 13) (ret := none) (by decide) rfl ?_
  intro p e s m args below meth c s₁ B hml hv
  obtain ⟨rfl, hsz, hP, hK, hD0, hZ⟩ := hv
  have hx := B.exec
  have hb := B.bytes
  have hr := B.returns
  have hT : ∀ w ∈ lw_all, w.before _ s = true := fun w h => atoms_spec (ws := w_Sha_digest) B.pre w (List.mem_cons_of_mem _ h)
  have hown : s.vm.findClass R_Sha = some m.cls := findClass_of_methodNamed B.named
  have hlocks := B.notSynchronized
  subst hsz
  have hD := hD0.self (sz := s.heap.size)
  generalize hAe : va_A [(h0, .inr (2, [.ref h1, .ref h2])), (h1, .inl (e1, 64, .inl f1)), (h2, .inl (e2, 8, .inl f2)), (h3, .inl (e3, 4096, .inl f3)), (h4, .inl (e4, 1024, .inl f4))] s.heap.size = A at hD hZ ⊢
  have hA : ∀ q : Nat, s.heap.size ≤ q → A q := fun q h => by rw [← hAe]; exact Or.inr h
  have hS : va_S A s.heap s.heap [] := va_S.rf
  have hl := lv_entry ([.ref h0, .ref h3, .int 77, .int 17, .int 2, .ref h4, .int 0]) (n := 13) (Nat.le_of_ble_eq_true rfl)
  rw [lg_entry_eq]
  generalize (lg_sl ([.ref h0, .ref h3, .int 77, .int 17, .int 2, .ref h4, .int 0]) ++ List.replicate (13 - (lg_sl ([.ref h0, .ref h3, .int 77, .int 17, .int 2, .ref h4, .int 0])).length) Slot.unset).toArray = ls at hl ⊢
  have hl : lv_has ls 13 [(0, .ref h0), (1, .ref h3), (2, .int 77), (3, .int 17), (4, .int 2), (5, .ref h4), (6, .int 0)] := hl
  refine lv_aload_n hx hb d_Sha_digest_0 rfl (lv_at hl 1 rfl) ?_
  refine lv_astore (lv' := [(7, .ref h3), (0, .ref h0), (1, .ref h3), (2, .int 77), (3, .int 17), (4, .int 2), (5, .ref h4), (6, .int 0)]) hx hb d_Sha_digest_1 hl (by decide) rfl (fun ls hl => ?_)
  refine lv_iload_n hx hb d_Sha_digest_3 rfl (lv_at hl 3 rfl) ?_
  refine lv_istore (lv' := [(8, .int 77), (7, .ref h3), (0, .ref h0), (1, .ref h3), (2, .int 77), (3, .int 17), (4, .int 2), (5, .ref h4), (6, .int 0)]) hx hb d_Sha_digest_4 hl (by decide) rfl (fun ls hl => ?_)
  refine lv_iload_n hx hb d_Sha_digest_6 rfl (lv_at hl 5 rfl) ?_
  refine lv_istore (lv' := [(9, .int 17), (8, .int 77), (7, .ref h3), (0, .ref h0), (1, .ref h3), (2, .int 77), (3, .int 17), (4, .int 2), (5, .ref h4), (6, .int 0)]) hx hb d_Sha_digest_7 hl (by decide) rfl (fun ls hl => ?_)
  refine lv_iconst (v := 0) hx hb d_Sha_digest_9 (by decide) ?_
  refine lv_istore (lv' := [(10, .int 0), (9, .int 17), (8, .int 77), (7, .ref h3), (0, .ref h0), (1, .ref h3), (2, .int 77), (3, .int 17), (4, .int 2), (5, .ref h4), (6, .int 0)]) hx hb d_Sha_digest_10 hl (by decide) rfl (fun ls hl => ?_)
  refine lv_iload hx hb d_Sha_digest_12 (lv_at hl 0 rfl) ?_
  refine lv_iload hx hb d_Sha_digest_14 (lv_at hl 8 rfl) ?_
  refine lv_icmp_ge (tgt := 131) hx hb d_Sha_digest_16 (by decide) (fun h => absurd h (by decide)) (fun _ => ?_)
  refine va_gets hx hb hZ.2.1 hS hown (hT _ k_114) (fun _ h9 => h9) d_Sha_digest_19 ?_
  refine lv_iconst (v := 0) hx hb d_Sha_digest_22 (by decide) ?_
  refine lv_aload_n hx hb d_Sha_digest_23 rfl (lv_at hl 4 rfl) ?_
  refine va_get (D := (dC, dI)) (ci := 2) (v := .ref h2) (C := R_Sha) (T := F_Sha) (N := 2) hx hb hT i_Sha hown hK hP 0 rfl rfl 1 (by decide) (hT _ k_20) (fun _ h9 => h9) rfl d_Sha_digest_24 ?_
  refine lv_iconst (v := 0) hx hb d_Sha_digest_27 (by decide) ?_
  refine lv_bipush (v := 8) hx hb d_Sha_digest_28 (by decide) ?_
  refine zz_copyt hx hb (by rw [hml]; exact hl.1.symm) hown (hT _ k_115) (hT _ k_103) (hT _ k_104) (hT _ k_105) hK hP hD hS hZ.2.2.1 2 1 rfl rfl (by decide) (by decide) (by decide) (by decide) (by decide) (Nat.le_of_ble_eq_true rfl) (Nat.le_of_ble_eq_true rfl) d_Sha_digest_30 (fun f_1 H locs hP hD hS => ?_)
  have hP : va_P (dC, dI) cl_all [(h0, .inr (2, [.ref h1, .ref h2])), (h1, .inl (e1, 64, .inl f1)), (h2, .inl (e2, 8, .inl f_1)), (h3, .inl (e3, 4096, .inl f3)), (h4, .inl (e4, 1024, .inl f4))] H := hP
  have hD : va_D A [(h0, .inr (2, [.ref h1, .ref h2])), (h1, .inl (e1, 64, .inl f1)), (h2, .inl (e2, 8, .inl f_1)), (h3, .inl (e3, 4096, .inl f3)), (h4, .inl (e4, 1024, .inl f4))] := hD
  refine lv_iload hx hb d_Sha_digest_33 (lv_at hl 1 rfl) ?_
  refine lv_bipush (v := 72) hx hb d_Sha_digest_35 (by decide) ?_
  refine lv_iadd hx hb d_Sha_digest_37 ?_
  refine zz_i (v := 89) (by decide) ?_
  refine lv_bipush (v := 64) hx hb d_Sha_digest_38 (by decide) ?_
  refine lv_idiv hx hb d_Sha_digest_40 (by decide) ?_
  refine zz_i (v := 1) (by decide) ?_
  refine lv_istore (lv' := [(11, .int 1), (10, .int 0), (9, .int 17), (8, .int 77), (7, .ref h3), (0, .ref h0), (1, .ref h3), (2, .int 77), (3, .int 17), (4, .int 2), (5, .ref h4), (6, .int 0)]) hx hb d_Sha_digest_41 hl (by decide) rfl (fun ls hl => ?_)
  refine lv_iconst (v := 0) hx hb d_Sha_digest_43 (by decide) ?_
  refine lv_istore (lv' := [(12, .int 0), (11, .int 1), (10, .int 0), (9, .int 17), (8, .int 77), (7, .ref h3), (0, .ref h0), (1, .ref h3), (2, .int 77), (3, .int 17), (4, .int 2), (5, .ref h4), (6, .int 0)]) hx hb d_Sha_digest_44 hl (by decide) rfl (fun ls hl => ?_)
  refine lv_iload hx hb d_Sha_digest_46 (lv_at hl 0 rfl) ?_
  refine lv_iload hx hb d_Sha_digest_48 (lv_at hl 1 rfl) ?_
  refine lv_icmp_ge (tgt := 78) hx hb d_Sha_digest_50 (by decide) (fun h => absurd h (by decide)) (fun _ => ?_)
  refine lv_aload_n hx hb d_Sha_digest_53 rfl (lv_at hl 6 rfl) ?_
  refine lv_aload hx hb d_Sha_digest_54 (lv_at hl 5 rfl) ?_
  refine lv_iload hx hb d_Sha_digest_56 (lv_at hl 4 rfl) ?_
  refine lv_iload hx hb d_Sha_digest_58 (lv_at hl 3 rfl) ?_
  refine lv_iload hx hb d_Sha_digest_60 (lv_at hl 0 rfl) ?_
  refine lv_bipush (v := 64) hx hb d_Sha_digest_62 (by decide) ?_
  refine lv_imul hx hb d_Sha_digest_64 ?_
  refine zz_i (v := 0) (by decide) ?_
  have hPc := hP.sub (ws' := [(h0, .inr (2, [.ref h1, .ref h2])), (h1, .inl (e1, 64, .inl f1)), (h3, .inl (e3, 4096, .inl f3))]) [0, 1, 3] rfl
  have hDc := hD.sub (ws' := [(h0, .inr (2, [.ref h1, .ref h2])), (h1, .inl (e1, 64, .inl f1)), (h3, .inl (e3, 4096, .inl f3))]) [0, 1, 3] (by decide) rfl
  have hKc := hK.sub (tys' := [(e1, .int), (e3, .byte)]) [0, 2] rfl
  have hFc := va_free (wc := [(h0, .inr (2, [.ref h1, .ref h2])), (h1, .inl (e1, 64, .inl f1)), (h3, .inl (e3, 4096, .inl f3))]) hD hS hA [0, 1, 3] rfl
  refine va_callv (va_runV (C := R_Sha) (As := [.ref h3, .int 77, .int 17, .int 0]) (rest := []) ⟨hx, hb, hml, hown, hT⟩ (c_Sha_load17 l dC dI z H.size h0 h1 h2 h3 e1 e3 4096 f1 f3 (by omega) (by omega)) ⟨callB_of 4 hT g_Sha_load rfl rfl rfl (hT _ k_116) (hT _ k_117) (by decide +kernel) ⟨Nat.le_of_ble_eq_true rfl, Nat.le_of_ble_eq_true rfl⟩, (hT _ k_118), (hT _ k_119)⟩ (zz_preV hPc hKc hDc hZ hS hFc hK hP (ci := 2) (q0 := 0) (q := (R_Sha, F_Sha, 2)) rfl rfl) rfl rfl hl.1 rfl (lv_room (Nat.le_of_ble_eq_true rfl)) d_Sha_digest_65 ⟨Nat.le_of_ble_eq_true rfl, Nat.le_of_ble_eq_true rfl⟩) hS (fun q _ h => hFc q h) hFc (fun u9 t9 H1 locs ht9 hvm9 hw9 hB9 hz19 hk19 hS => ?_)
  obtain ⟨f_3, hP1, hK1, hD1⟩ := hB9
  rw [ht9] at hP1
  obtain ⟨hP, hD⟩ := va_join (wr := [(h2, .inl (e2, 8, .inl f_1)), (h4, .inl (e4, 1024, .inl f4))]) (w1 := [(h0, .inr (2, [.ref h1, .ref h2])), (h1, .inl (e1, 64, .inl f_3)), (h3, .inl (e3, 4096, .inl f3))]) hP hD [0, 1, 3] [2, 4] rfl rfl (by decide) (by decide) hk19 hFc hP1 hD1
  generalize H1 = H at hP hS ⊢
  have hP : va_P (dC, dI) cl_all [(h2, .inl (e2, 8, .inl f_1)), (h4, .inl (e4, 1024, .inl f4)), (h0, .inr (2, [.ref h1, .ref h2])), (h1, .inl (e1, 64, .inl f_3)), (h3, .inl (e3, 4096, .inl f3))] H := hP
  have hD : va_D A [(h2, .inl (e2, 8, .inl f_1)), (h4, .inl (e4, 1024, .inl f4)), (h0, .inr (2, [.ref h1, .ref h2])), (h1, .inl (e1, 64, .inl f_3)), (h3, .inl (e3, 4096, .inl f3))] := hD
  refine lv_aload_n hx hb d_Sha_digest_68 rfl (lv_at hl 6 rfl) ?_
  have hPc := hP.sub (ws' := [(h0, .inr (2, [.ref h1, .ref h2])), (h1, .inl (e1, 64, .inl f_3)), (h2, .inl (e2, 8, .inl f_1))]) [2, 3, 0] rfl
  have hDc := hD.sub (ws' := [(h0, .inr (2, [.ref h1, .ref h2])), (h1, .inl (e1, 64, .inl f_3)), (h2, .inl (e2, 8, .inl f_1))]) [2, 3, 0] (by decide) rfl
  have hKc := hK.sub (tys' := [(e1, .int), (e2, .int)]) [0, 1] rfl
  have hFc := va_free (wc := [(h0, .inr (2, [.ref h1, .ref h2])), (h1, .inl (e1, 64, .inl f_3)), (h2, .inl (e2, 8, .inl f_1))]) hD hS hA [2, 3, 0] rfl
  refine va_callv (va_runV (C := R_Sha) (As := []) (rest := []) ⟨hx, hb, hml, hown, hT⟩ (c_Sha_mix l dC dI z H.size h0 h1 h2 e1 e2 f_3 f_1) ⟨callB_of 0 hT g_Sha_mix rfl rfl rfl (hT _ k_116) (hT _ k_120) (by decide +kernel) ⟨Nat.le_of_ble_eq_true rfl, Nat.le_of_ble_eq_true rfl⟩, (hT _ k_121), (hT _ k_122)⟩ (zz_preV hPc hKc hDc hZ hS hFc hK hP (ci := 2) (q0 := 2) (q := (R_Sha, F_Sha, 2)) rfl rfl) rfl rfl hl.1 rfl (lv_room (Nat.le_of_ble_eq_true rfl)) d_Sha_digest_69 ⟨Nat.le_of_ble_eq_true rfl, Nat.le_of_ble_eq_true rfl⟩) hS (fun q _ h => hFc q h) hFc (fun u9 t9 H1 locs ht9 hvm9 hw9 hB9 hz19 hk19 hS => ?_)
  obtain ⟨f_5, f_6, hP1, hK1, hD1⟩ := hB9
  rw [ht9] at hP1
  obtain ⟨hP, hD⟩ := va_join (wr := [(h4, .inl (e4, 1024, .inl f4)), (h3, .inl (e3, 4096, .inl f3))]) (w1 := [(h0, .inr (2, [.ref h1, .ref h2])), (h1, .inl (e1, 64, .inl f_5)), (h2, .inl (e2, 8, .inl f_6))]) hP hD [2, 3, 0] [1, 4] rfl rfl (by decide) (by decide) hk19 hFc hP1 hD1
  generalize H1 = H at hP hS ⊢
  have hP : va_P (dC, dI) cl_all [(h4, .inl (e4, 1024, .inl f4)), (h3, .inl (e3, 4096, .inl f3)), (h0, .inr (2, [.ref h1, .ref h2])), (h1, .inl (e1, 64, .inl f_5)), (h2, .inl (e2, 8, .inl f_6))] H := hP
  have hD : va_D A [(h4, .inl (e4, 1024, .inl f4)), (h3, .inl (e3, 4096, .inl f3)), (h0, .inr (2, [.ref h1, .ref h2])), (h1, .inl (e1, 64, .inl f_5)), (h2, .inl (e2, 8, .inl f_6))] := hD
  refine lv_iinc (v := 1) (lv' := [(12, .int 1), (11, .int 1), (10, .int 0), (9, .int 17), (8, .int 77), (7, .ref h3), (0, .ref h0), (1, .ref h3), (2, .int 77), (3, .int 17), (4, .int 2), (5, .ref h4), (6, .int 0)]) hx hb d_Sha_digest_72 hl (k := 0) rfl (by decide) (by decide) rfl (fun ls hl => ?_)
  refine lv_goto (tgt := 46) hx hb d_Sha_digest_75 (by decide) ?_
  refine lv_iload hx hb d_Sha_digest_46 (lv_at hl 0 rfl) ?_
  refine lv_iload hx hb d_Sha_digest_48 (lv_at hl 1 rfl) ?_
  refine lv_icmp_ge (tgt := 78) hx hb d_Sha_digest_50 (by decide) (fun _ => ?_) (fun h => absurd (by decide) h)
  refine lv_iconst (v := 0) hx hb d_Sha_digest_78 (by decide) ?_
  refine lv_istore (lv' := [(12, .int 0), (11, .int 1), (10, .int 0), (9, .int 17), (8, .int 77), (7, .ref h3), (0, .ref h0), (1, .ref h3), (2, .int 77), (3, .int 17), (4, .int 2), (5, .ref h4), (6, .int 0)]) hx hb d_Sha_digest_79 hl (by decide) rfl (fun ls hl => ?_)
  refine lv_iload hx hb d_Sha_digest_81 (lv_at hl 0 rfl) ?_
  refine lv_bipush (v := 8) hx hb d_Sha_digest_83 (by decide) ?_
  refine lv_icmp_ge (tgt := 113) hx hb d_Sha_digest_85 (by decide) (fun h => absurd h (by decide)) (fun _ => ?_)
  refine lv_aload hx hb d_Sha_digest_88 (lv_at hl 11 rfl) ?_
  refine lv_iload hx hb d_Sha_digest_90 (lv_at hl 12 rfl) ?_
  refine lv_iload hx hb d_Sha_digest_92 (lv_at hl 0 rfl) ?_
  refine lv_iconst (v := 4) hx hb d_Sha_digest_94 (by decide) ?_
  refine lv_imul hx hb d_Sha_digest_95 ?_
  refine zz_i (v := 0) (by decide) ?_
  refine lv_iadd hx hb d_Sha_digest_96 ?_
  refine zz_i (v := 0) (by decide) ?_
  refine lv_aload_n hx hb d_Sha_digest_97 rfl (lv_at hl 6 rfl) ?_
  refine va_get (D := (dC, dI)) (ci := 2) (v := .ref h2) (C := R_Sha) (T := F_Sha) (N := 2) hx hb hT i_Sha hown hK hP 2 rfl rfl 1 (by decide) (hT _ k_20) (fun _ h9 => h9) rfl d_Sha_digest_98 ?_
  refine lv_iload hx hb d_Sha_digest_101 (lv_at hl 0 rfl) ?_
  refine va_iald hx hb hK hP 4 1 rfl rfl (by unfold vp_in; decide) d_Sha_digest_103 ?_
  refine lv_topi (fun x_7 _ => ?_)
  have hPc := hP.sub (ws' := [(h4, .inl (e4, 1024, .inl f4))]) [0] rfl
  have hDc := hD.sub (ws' := [(h4, .inl (e4, 1024, .inl f4))]) [0] (by decide) rfl
  have hKc := hK.sub (tys' := [(e4, .byte)]) [3] rfl
  have hFc := va_free (wc := [(h4, .inl (e4, 1024, .inl f4))]) hD hS hA [0] rfl
  refine va_callv (va_runSN (As := [.ref h4, .int 0, .int x_7]) (rest := []) ⟨hx, hb, hml, hown, hT⟩ (c_CL_putNumber l dC dI z H.size h4 e4 1024 f4 0 x_7 hf_f4 (by omega) (by omega)) ⟨va_cnB (host := "ChainLedger") 3 hT g_CL_putNumber rfl rfl rfl (zn_k_123 (zz_N hZ)) (hT _ k_100) (by decide +kernel) ⟨Nat.le_of_ble_eq_true rfl, Nat.le_of_ble_eq_true rfl⟩, (hT _ k_101), trivial⟩ (zz_pre hPc hKc hDc hZ hS hFc) rfl rfl hl.1 rfl (lv_room (Nat.le_of_ble_eq_true rfl)) d_Sha_digest_104 ⟨Nat.le_of_ble_eq_true rfl, Nat.le_of_ble_eq_true rfl⟩) hS (fun q _ h => hFc q h) hFc (fun u9 t9 H1 locs ht9 hvm9 hw9 hB9 hz19 hk19 hS => ?_)
  obtain ⟨f_9, hf_10, hP1, hK1, hD1⟩ := hB9
  rw [ht9] at hP1
  obtain ⟨hP, hD⟩ := va_join (wr := [(h3, .inl (e3, 4096, .inl f3)), (h0, .inr (2, [.ref h1, .ref h2])), (h1, .inl (e1, 64, .inl f_5)), (h2, .inl (e2, 8, .inl f_6))]) (w1 := [(h4, .inl (e4, 1024, .inl f_9))]) hP hD [0] [1, 2, 3, 4] rfl rfl (by decide) (by decide) hk19 hFc hP1 hD1
  generalize H1 = H at hP hS ⊢
  have hP : va_P (dC, dI) cl_all [(h3, .inl (e3, 4096, .inl f3)), (h0, .inr (2, [.ref h1, .ref h2])), (h1, .inl (e1, 64, .inl f_5)), (h2, .inl (e2, 8, .inl f_6)), (h4, .inl (e4, 1024, .inl f_9))] H := hP
  have hD : va_D A [(h3, .inl (e3, 4096, .inl f3)), (h0, .inr (2, [.ref h1, .ref h2])), (h1, .inl (e1, 64, .inl f_5)), (h2, .inl (e2, 8, .inl f_6)), (h4, .inl (e4, 1024, .inl f_9))] := hD
  refine lv_iinc (v := 1) (lv' := [(12, .int 1), (11, .int 1), (10, .int 0), (9, .int 17), (8, .int 77), (7, .ref h3), (0, .ref h0), (1, .ref h3), (2, .int 77), (3, .int 17), (4, .int 2), (5, .ref h4), (6, .int 0)]) hx hb d_Sha_digest_107 hl (k := 0) rfl (by decide) (by decide) rfl (fun ls hl => ?_)
  refine lv_goto (tgt := 81) hx hb d_Sha_digest_110 (by decide) ?_
  refine lv_iload hx hb d_Sha_digest_81 (lv_at hl 0 rfl) ?_
  refine lv_bipush (v := 8) hx hb d_Sha_digest_83 (by decide) ?_
  refine lv_icmp_ge (tgt := 113) hx hb d_Sha_digest_85 (by decide) (fun h => absurd h (by decide)) (fun _ => ?_)
  refine lv_aload hx hb d_Sha_digest_88 (lv_at hl 11 rfl) ?_
  refine lv_iload hx hb d_Sha_digest_90 (lv_at hl 12 rfl) ?_
  refine lv_iload hx hb d_Sha_digest_92 (lv_at hl 0 rfl) ?_
  refine lv_iconst (v := 4) hx hb d_Sha_digest_94 (by decide) ?_
  refine lv_imul hx hb d_Sha_digest_95 ?_
  refine zz_i (v := 4) (by decide) ?_
  refine lv_iadd hx hb d_Sha_digest_96 ?_
  refine zz_i (v := 4) (by decide) ?_
  refine lv_aload_n hx hb d_Sha_digest_97 rfl (lv_at hl 6 rfl) ?_
  refine va_get (D := (dC, dI)) (ci := 2) (v := .ref h2) (C := R_Sha) (T := F_Sha) (N := 2) hx hb hT i_Sha hown hK hP 1 rfl rfl 1 (by decide) (hT _ k_20) (fun _ h9 => h9) rfl d_Sha_digest_98 ?_
  refine lv_iload hx hb d_Sha_digest_101 (lv_at hl 0 rfl) ?_
  refine va_iald hx hb hK hP 3 1 rfl rfl (by unfold vp_in; decide) d_Sha_digest_103 ?_
  refine lv_topi (fun x_11 _ => ?_)
  have hPc := hP.sub (ws' := [(h4, .inl (e4, 1024, .inl f_9))]) [4] rfl
  have hDc := hD.sub (ws' := [(h4, .inl (e4, 1024, .inl f_9))]) [4] (by decide) rfl
  have hKc := hK.sub (tys' := [(e4, .byte)]) [3] rfl
  have hFc := va_free (wc := [(h4, .inl (e4, 1024, .inl f_9))]) hD hS hA [4] rfl
  refine va_callv (va_runSN (As := [.ref h4, .int 4, .int x_11]) (rest := []) ⟨hx, hb, hml, hown, hT⟩ (c_CL_putNumber l dC dI z H.size h4 e4 1024 f_9 4 x_11 hf_10 (by omega) (by omega)) ⟨va_cnB (host := "ChainLedger") 3 hT g_CL_putNumber rfl rfl rfl (zn_k_123 (zz_N hZ)) (hT _ k_100) (by decide +kernel) ⟨Nat.le_of_ble_eq_true rfl, Nat.le_of_ble_eq_true rfl⟩, (hT _ k_101), trivial⟩ (zz_pre hPc hKc hDc hZ hS hFc) rfl rfl hl.1 rfl (lv_room (Nat.le_of_ble_eq_true rfl)) d_Sha_digest_104 ⟨Nat.le_of_ble_eq_true rfl, Nat.le_of_ble_eq_true rfl⟩) hS (fun q _ h => hFc q h) hFc (fun u9 t9 H1 locs ht9 hvm9 hw9 hB9 hz19 hk19 hS => ?_)
  obtain ⟨f_13, hf_14, hP1, hK1, hD1⟩ := hB9
  rw [ht9] at hP1
  obtain ⟨hP, hD⟩ := va_join (wr := [(h3, .inl (e3, 4096, .inl f3)), (h0, .inr (2, [.ref h1, .ref h2])), (h1, .inl (e1, 64, .inl f_5)), (h2, .inl (e2, 8, .inl f_6))]) (w1 := [(h4, .inl (e4, 1024, .inl f_13))]) hP hD [4] [0, 1, 2, 3] rfl rfl (by decide) (by decide) hk19 hFc hP1 hD1
  generalize H1 = H at hP hS ⊢
  have hP : va_P (dC, dI) cl_all [(h3, .inl (e3, 4096, .inl f3)), (h0, .inr (2, [.ref h1, .ref h2])), (h1, .inl (e1, 64, .inl f_5)), (h2, .inl (e2, 8, .inl f_6)), (h4, .inl (e4, 1024, .inl f_13))] H := hP
  have hD : va_D A [(h3, .inl (e3, 4096, .inl f3)), (h0, .inr (2, [.ref h1, .ref h2])), (h1, .inl (e1, 64, .inl f_5)), (h2, .inl (e2, 8, .inl f_6)), (h4, .inl (e4, 1024, .inl f_13))] := hD
  refine lv_iinc (v := 2) (lv' := [(12, .int 2), (11, .int 1), (10, .int 0), (9, .int 17), (8, .int 77), (7, .ref h3), (0, .ref h0), (1, .ref h3), (2, .int 77), (3, .int 17), (4, .int 2), (5, .ref h4), (6, .int 0)]) hx hb d_Sha_digest_107 hl (k := 0) rfl (by decide) (by decide) rfl (fun ls hl => ?_)
  refine lv_goto (tgt := 81) hx hb d_Sha_digest_110 (by decide) ?_
  refine lv_iload hx hb d_Sha_digest_81 (lv_at hl 0 rfl) ?_
  refine lv_bipush (v := 8) hx hb d_Sha_digest_83 (by decide) ?_
  refine lv_icmp_ge (tgt := 113) hx hb d_Sha_digest_85 (by decide) (fun h => absurd h (by decide)) (fun _ => ?_)
  refine lv_aload hx hb d_Sha_digest_88 (lv_at hl 11 rfl) ?_
  refine lv_iload hx hb d_Sha_digest_90 (lv_at hl 12 rfl) ?_
  refine lv_iload hx hb d_Sha_digest_92 (lv_at hl 0 rfl) ?_
  refine lv_iconst (v := 4) hx hb d_Sha_digest_94 (by decide) ?_
  refine lv_imul hx hb d_Sha_digest_95 ?_
  refine zz_i (v := 8) (by decide) ?_
  refine lv_iadd hx hb d_Sha_digest_96 ?_
  refine zz_i (v := 8) (by decide) ?_
  refine lv_aload_n hx hb d_Sha_digest_97 rfl (lv_at hl 6 rfl) ?_
  refine va_get (D := (dC, dI)) (ci := 2) (v := .ref h2) (C := R_Sha) (T := F_Sha) (N := 2) hx hb hT i_Sha hown hK hP 1 rfl rfl 1 (by decide) (hT _ k_20) (fun _ h9 => h9) rfl d_Sha_digest_98 ?_
  refine lv_iload hx hb d_Sha_digest_101 (lv_at hl 0 rfl) ?_
  refine va_iald hx hb hK hP 3 1 rfl rfl (by unfold vp_in; decide) d_Sha_digest_103 ?_
  refine lv_topi (fun x_15 _ => ?_)
  have hPc := hP.sub (ws' := [(h4, .inl (e4, 1024, .inl f_13))]) [4] rfl
  have hDc := hD.sub (ws' := [(h4, .inl (e4, 1024, .inl f_13))]) [4] (by decide) rfl
  have hKc := hK.sub (tys' := [(e4, .byte)]) [3] rfl
  have hFc := va_free (wc := [(h4, .inl (e4, 1024, .inl f_13))]) hD hS hA [4] rfl
  refine va_callv (va_runSN (As := [.ref h4, .int 8, .int x_15]) (rest := []) ⟨hx, hb, hml, hown, hT⟩ (c_CL_putNumber l dC dI z H.size h4 e4 1024 f_13 8 x_15 hf_14 (by omega) (by omega)) ⟨va_cnB (host := "ChainLedger") 3 hT g_CL_putNumber rfl rfl rfl (zn_k_123 (zz_N hZ)) (hT _ k_100) (by decide +kernel) ⟨Nat.le_of_ble_eq_true rfl, Nat.le_of_ble_eq_true rfl⟩, (hT _ k_101), trivial⟩ (zz_pre hPc hKc hDc hZ hS hFc) rfl rfl hl.1 rfl (lv_room (Nat.le_of_ble_eq_true rfl)) d_Sha_digest_104 ⟨Nat.le_of_ble_eq_true rfl, Nat.le_of_ble_eq_true rfl⟩) hS (fun q _ h => hFc q h) hFc (fun u9 t9 H1 locs ht9 hvm9 hw9 hB9 hz19 hk19 hS => ?_)
  obtain ⟨f_17, hf_18, hP1, hK1, hD1⟩ := hB9
  rw [ht9] at hP1
  obtain ⟨hP, hD⟩ := va_join (wr := [(h3, .inl (e3, 4096, .inl f3)), (h0, .inr (2, [.ref h1, .ref h2])), (h1, .inl (e1, 64, .inl f_5)), (h2, .inl (e2, 8, .inl f_6))]) (w1 := [(h4, .inl (e4, 1024, .inl f_17))]) hP hD [4] [0, 1, 2, 3] rfl rfl (by decide) (by decide) hk19 hFc hP1 hD1
  generalize H1 = H at hP hS ⊢
  have hP : va_P (dC, dI) cl_all [(h3, .inl (e3, 4096, .inl f3)), (h0, .inr (2, [.ref h1, .ref h2])), (h1, .inl (e1, 64, .inl f_5)), (h2, .inl (e2, 8, .inl f_6)), (h4, .inl (e4, 1024, .inl f_17))] H := hP
  have hD : va_D A [(h3, .inl (e3, 4096, .inl f3)), (h0, .inr (2, [.ref h1, .ref h2])), (h1, .inl (e1, 64, .inl f_5)), (h2, .inl (e2, 8, .inl f_6)), (h4, .inl (e4, 1024, .inl f_17))] := hD
  refine lv_iinc (v := 3) (lv' := [(12, .int 3), (11, .int 1), (10, .int 0), (9, .int 17), (8, .int 77), (7, .ref h3), (0, .ref h0), (1, .ref h3), (2, .int 77), (3, .int 17), (4, .int 2), (5, .ref h4), (6, .int 0)]) hx hb d_Sha_digest_107 hl (k := 0) rfl (by decide) (by decide) rfl (fun ls hl => ?_)
  refine lv_goto (tgt := 81) hx hb d_Sha_digest_110 (by decide) ?_
  refine lv_iload hx hb d_Sha_digest_81 (lv_at hl 0 rfl) ?_
  refine lv_bipush (v := 8) hx hb d_Sha_digest_83 (by decide) ?_
  refine lv_icmp_ge (tgt := 113) hx hb d_Sha_digest_85 (by decide) (fun h => absurd h (by decide)) (fun _ => ?_)
  refine lv_aload hx hb d_Sha_digest_88 (lv_at hl 11 rfl) ?_
  refine lv_iload hx hb d_Sha_digest_90 (lv_at hl 12 rfl) ?_
  refine lv_iload hx hb d_Sha_digest_92 (lv_at hl 0 rfl) ?_
  refine lv_iconst (v := 4) hx hb d_Sha_digest_94 (by decide) ?_
  refine lv_imul hx hb d_Sha_digest_95 ?_
  refine zz_i (v := 12) (by decide) ?_
  refine lv_iadd hx hb d_Sha_digest_96 ?_
  refine zz_i (v := 12) (by decide) ?_
  refine lv_aload_n hx hb d_Sha_digest_97 rfl (lv_at hl 6 rfl) ?_
  refine va_get (D := (dC, dI)) (ci := 2) (v := .ref h2) (C := R_Sha) (T := F_Sha) (N := 2) hx hb hT i_Sha hown hK hP 1 rfl rfl 1 (by decide) (hT _ k_20) (fun _ h9 => h9) rfl d_Sha_digest_98 ?_
  refine lv_iload hx hb d_Sha_digest_101 (lv_at hl 0 rfl) ?_
  refine va_iald hx hb hK hP 3 1 rfl rfl (by unfold vp_in; decide) d_Sha_digest_103 ?_
  refine lv_topi (fun x_19 _ => ?_)
  have hPc := hP.sub (ws' := [(h4, .inl (e4, 1024, .inl f_17))]) [4] rfl
  have hDc := hD.sub (ws' := [(h4, .inl (e4, 1024, .inl f_17))]) [4] (by decide) rfl
  have hKc := hK.sub (tys' := [(e4, .byte)]) [3] rfl
  have hFc := va_free (wc := [(h4, .inl (e4, 1024, .inl f_17))]) hD hS hA [4] rfl
  refine va_callv (va_runSN (As := [.ref h4, .int 12, .int x_19]) (rest := []) ⟨hx, hb, hml, hown, hT⟩ (c_CL_putNumber l dC dI z H.size h4 e4 1024 f_17 12 x_19 hf_18 (by omega) (by omega)) ⟨va_cnB (host := "ChainLedger") 3 hT g_CL_putNumber rfl rfl rfl (zn_k_123 (zz_N hZ)) (hT _ k_100) (by decide +kernel) ⟨Nat.le_of_ble_eq_true rfl, Nat.le_of_ble_eq_true rfl⟩, (hT _ k_101), trivial⟩ (zz_pre hPc hKc hDc hZ hS hFc) rfl rfl hl.1 rfl (lv_room (Nat.le_of_ble_eq_true rfl)) d_Sha_digest_104 ⟨Nat.le_of_ble_eq_true rfl, Nat.le_of_ble_eq_true rfl⟩) hS (fun q _ h => hFc q h) hFc (fun u9 t9 H1 locs ht9 hvm9 hw9 hB9 hz19 hk19 hS => ?_)
  obtain ⟨f_21, hf_22, hP1, hK1, hD1⟩ := hB9
  rw [ht9] at hP1
  obtain ⟨hP, hD⟩ := va_join (wr := [(h3, .inl (e3, 4096, .inl f3)), (h0, .inr (2, [.ref h1, .ref h2])), (h1, .inl (e1, 64, .inl f_5)), (h2, .inl (e2, 8, .inl f_6))]) (w1 := [(h4, .inl (e4, 1024, .inl f_21))]) hP hD [4] [0, 1, 2, 3] rfl rfl (by decide) (by decide) hk19 hFc hP1 hD1
  generalize H1 = H at hP hS ⊢
  have hP : va_P (dC, dI) cl_all [(h3, .inl (e3, 4096, .inl f3)), (h0, .inr (2, [.ref h1, .ref h2])), (h1, .inl (e1, 64, .inl f_5)), (h2, .inl (e2, 8, .inl f_6)), (h4, .inl (e4, 1024, .inl f_21))] H := hP
  have hD : va_D A [(h3, .inl (e3, 4096, .inl f3)), (h0, .inr (2, [.ref h1, .ref h2])), (h1, .inl (e1, 64, .inl f_5)), (h2, .inl (e2, 8, .inl f_6)), (h4, .inl (e4, 1024, .inl f_21))] := hD
  refine lv_iinc (v := 4) (lv' := [(12, .int 4), (11, .int 1), (10, .int 0), (9, .int 17), (8, .int 77), (7, .ref h3), (0, .ref h0), (1, .ref h3), (2, .int 77), (3, .int 17), (4, .int 2), (5, .ref h4), (6, .int 0)]) hx hb d_Sha_digest_107 hl (k := 0) rfl (by decide) (by decide) rfl (fun ls hl => ?_)
  refine lv_goto (tgt := 81) hx hb d_Sha_digest_110 (by decide) ?_
  refine lv_iload hx hb d_Sha_digest_81 (lv_at hl 0 rfl) ?_
  refine lv_bipush (v := 8) hx hb d_Sha_digest_83 (by decide) ?_
  refine lv_icmp_ge (tgt := 113) hx hb d_Sha_digest_85 (by decide) (fun h => absurd h (by decide)) (fun _ => ?_)
  refine lv_aload hx hb d_Sha_digest_88 (lv_at hl 11 rfl) ?_
  refine lv_iload hx hb d_Sha_digest_90 (lv_at hl 12 rfl) ?_
  refine lv_iload hx hb d_Sha_digest_92 (lv_at hl 0 rfl) ?_
  refine lv_iconst (v := 4) hx hb d_Sha_digest_94 (by decide) ?_
  refine lv_imul hx hb d_Sha_digest_95 ?_
  refine zz_i (v := 16) (by decide) ?_
  refine lv_iadd hx hb d_Sha_digest_96 ?_
  refine zz_i (v := 16) (by decide) ?_
  refine lv_aload_n hx hb d_Sha_digest_97 rfl (lv_at hl 6 rfl) ?_
  refine va_get (D := (dC, dI)) (ci := 2) (v := .ref h2) (C := R_Sha) (T := F_Sha) (N := 2) hx hb hT i_Sha hown hK hP 1 rfl rfl 1 (by decide) (hT _ k_20) (fun _ h9 => h9) rfl d_Sha_digest_98 ?_
  refine lv_iload hx hb d_Sha_digest_101 (lv_at hl 0 rfl) ?_
  refine va_iald hx hb hK hP 3 1 rfl rfl (by unfold vp_in; decide) d_Sha_digest_103 ?_
  refine lv_topi (fun x_23 _ => ?_)
  have hPc := hP.sub (ws' := [(h4, .inl (e4, 1024, .inl f_21))]) [4] rfl
  have hDc := hD.sub (ws' := [(h4, .inl (e4, 1024, .inl f_21))]) [4] (by decide) rfl
  have hKc := hK.sub (tys' := [(e4, .byte)]) [3] rfl
  have hFc := va_free (wc := [(h4, .inl (e4, 1024, .inl f_21))]) hD hS hA [4] rfl
  refine va_callv (va_runSN (As := [.ref h4, .int 16, .int x_23]) (rest := []) ⟨hx, hb, hml, hown, hT⟩ (c_CL_putNumber l dC dI z H.size h4 e4 1024 f_21 16 x_23 hf_22 (by omega) (by omega)) ⟨va_cnB (host := "ChainLedger") 3 hT g_CL_putNumber rfl rfl rfl (zn_k_123 (zz_N hZ)) (hT _ k_100) (by decide +kernel) ⟨Nat.le_of_ble_eq_true rfl, Nat.le_of_ble_eq_true rfl⟩, (hT _ k_101), trivial⟩ (zz_pre hPc hKc hDc hZ hS hFc) rfl rfl hl.1 rfl (lv_room (Nat.le_of_ble_eq_true rfl)) d_Sha_digest_104 ⟨Nat.le_of_ble_eq_true rfl, Nat.le_of_ble_eq_true rfl⟩) hS (fun q _ h => hFc q h) hFc (fun u9 t9 H1 locs ht9 hvm9 hw9 hB9 hz19 hk19 hS => ?_)
  obtain ⟨f_25, hf_26, hP1, hK1, hD1⟩ := hB9
  rw [ht9] at hP1
  obtain ⟨hP, hD⟩ := va_join (wr := [(h3, .inl (e3, 4096, .inl f3)), (h0, .inr (2, [.ref h1, .ref h2])), (h1, .inl (e1, 64, .inl f_5)), (h2, .inl (e2, 8, .inl f_6))]) (w1 := [(h4, .inl (e4, 1024, .inl f_25))]) hP hD [4] [0, 1, 2, 3] rfl rfl (by decide) (by decide) hk19 hFc hP1 hD1
  generalize H1 = H at hP hS ⊢
  have hP : va_P (dC, dI) cl_all [(h3, .inl (e3, 4096, .inl f3)), (h0, .inr (2, [.ref h1, .ref h2])), (h1, .inl (e1, 64, .inl f_5)), (h2, .inl (e2, 8, .inl f_6)), (h4, .inl (e4, 1024, .inl f_25))] H := hP
  have hD : va_D A [(h3, .inl (e3, 4096, .inl f3)), (h0, .inr (2, [.ref h1, .ref h2])), (h1, .inl (e1, 64, .inl f_5)), (h2, .inl (e2, 8, .inl f_6)), (h4, .inl (e4, 1024, .inl f_25))] := hD
  refine lv_iinc (v := 5) (lv' := [(12, .int 5), (11, .int 1), (10, .int 0), (9, .int 17), (8, .int 77), (7, .ref h3), (0, .ref h0), (1, .ref h3), (2, .int 77), (3, .int 17), (4, .int 2), (5, .ref h4), (6, .int 0)]) hx hb d_Sha_digest_107 hl (k := 0) rfl (by decide) (by decide) rfl (fun ls hl => ?_)
  refine lv_goto (tgt := 81) hx hb d_Sha_digest_110 (by decide) ?_
  refine lv_iload hx hb d_Sha_digest_81 (lv_at hl 0 rfl) ?_
  refine lv_bipush (v := 8) hx hb d_Sha_digest_83 (by decide) ?_
  refine lv_icmp_ge (tgt := 113) hx hb d_Sha_digest_85 (by decide) (fun h => absurd h (by decide)) (fun _ => ?_)
  refine lv_aload hx hb d_Sha_digest_88 (lv_at hl 11 rfl) ?_
  refine lv_iload hx hb d_Sha_digest_90 (lv_at hl 12 rfl) ?_
  refine lv_iload hx hb d_Sha_digest_92 (lv_at hl 0 rfl) ?_
  refine lv_iconst (v := 4) hx hb d_Sha_digest_94 (by decide) ?_
  refine lv_imul hx hb d_Sha_digest_95 ?_
  refine zz_i (v := 20) (by decide) ?_
  refine lv_iadd hx hb d_Sha_digest_96 ?_
  refine zz_i (v := 20) (by decide) ?_
  refine lv_aload_n hx hb d_Sha_digest_97 rfl (lv_at hl 6 rfl) ?_
  refine va_get (D := (dC, dI)) (ci := 2) (v := .ref h2) (C := R_Sha) (T := F_Sha) (N := 2) hx hb hT i_Sha hown hK hP 1 rfl rfl 1 (by decide) (hT _ k_20) (fun _ h9 => h9) rfl d_Sha_digest_98 ?_
  refine lv_iload hx hb d_Sha_digest_101 (lv_at hl 0 rfl) ?_
  refine va_iald hx hb hK hP 3 1 rfl rfl (by unfold vp_in; decide) d_Sha_digest_103 ?_
  refine lv_topi (fun x_27 _ => ?_)
  have hPc := hP.sub (ws' := [(h4, .inl (e4, 1024, .inl f_25))]) [4] rfl
  have hDc := hD.sub (ws' := [(h4, .inl (e4, 1024, .inl f_25))]) [4] (by decide) rfl
  have hKc := hK.sub (tys' := [(e4, .byte)]) [3] rfl
  have hFc := va_free (wc := [(h4, .inl (e4, 1024, .inl f_25))]) hD hS hA [4] rfl
  refine va_callv (va_runSN (As := [.ref h4, .int 20, .int x_27]) (rest := []) ⟨hx, hb, hml, hown, hT⟩ (c_CL_putNumber l dC dI z H.size h4 e4 1024 f_25 20 x_27 hf_26 (by omega) (by omega)) ⟨va_cnB (host := "ChainLedger") 3 hT g_CL_putNumber rfl rfl rfl (zn_k_123 (zz_N hZ)) (hT _ k_100) (by decide +kernel) ⟨Nat.le_of_ble_eq_true rfl, Nat.le_of_ble_eq_true rfl⟩, (hT _ k_101), trivial⟩ (zz_pre hPc hKc hDc hZ hS hFc) rfl rfl hl.1 rfl (lv_room (Nat.le_of_ble_eq_true rfl)) d_Sha_digest_104 ⟨Nat.le_of_ble_eq_true rfl, Nat.le_of_ble_eq_true rfl⟩) hS (fun q _ h => hFc q h) hFc (fun u9 t9 H1 locs ht9 hvm9 hw9 hB9 hz19 hk19 hS => ?_)
  obtain ⟨f_29, hf_30, hP1, hK1, hD1⟩ := hB9
  rw [ht9] at hP1
  obtain ⟨hP, hD⟩ := va_join (wr := [(h3, .inl (e3, 4096, .inl f3)), (h0, .inr (2, [.ref h1, .ref h2])), (h1, .inl (e1, 64, .inl f_5)), (h2, .inl (e2, 8, .inl f_6))]) (w1 := [(h4, .inl (e4, 1024, .inl f_29))]) hP hD [4] [0, 1, 2, 3] rfl rfl (by decide) (by decide) hk19 hFc hP1 hD1
  generalize H1 = H at hP hS ⊢
  have hP : va_P (dC, dI) cl_all [(h3, .inl (e3, 4096, .inl f3)), (h0, .inr (2, [.ref h1, .ref h2])), (h1, .inl (e1, 64, .inl f_5)), (h2, .inl (e2, 8, .inl f_6)), (h4, .inl (e4, 1024, .inl f_29))] H := hP
  have hD : va_D A [(h3, .inl (e3, 4096, .inl f3)), (h0, .inr (2, [.ref h1, .ref h2])), (h1, .inl (e1, 64, .inl f_5)), (h2, .inl (e2, 8, .inl f_6)), (h4, .inl (e4, 1024, .inl f_29))] := hD
  refine lv_iinc (v := 6) (lv' := [(12, .int 6), (11, .int 1), (10, .int 0), (9, .int 17), (8, .int 77), (7, .ref h3), (0, .ref h0), (1, .ref h3), (2, .int 77), (3, .int 17), (4, .int 2), (5, .ref h4), (6, .int 0)]) hx hb d_Sha_digest_107 hl (k := 0) rfl (by decide) (by decide) rfl (fun ls hl => ?_)
  refine lv_goto (tgt := 81) hx hb d_Sha_digest_110 (by decide) ?_
  refine lv_iload hx hb d_Sha_digest_81 (lv_at hl 0 rfl) ?_
  refine lv_bipush (v := 8) hx hb d_Sha_digest_83 (by decide) ?_
  refine lv_icmp_ge (tgt := 113) hx hb d_Sha_digest_85 (by decide) (fun h => absurd h (by decide)) (fun _ => ?_)
  refine lv_aload hx hb d_Sha_digest_88 (lv_at hl 11 rfl) ?_
  refine lv_iload hx hb d_Sha_digest_90 (lv_at hl 12 rfl) ?_
  refine lv_iload hx hb d_Sha_digest_92 (lv_at hl 0 rfl) ?_
  refine lv_iconst (v := 4) hx hb d_Sha_digest_94 (by decide) ?_
  refine lv_imul hx hb d_Sha_digest_95 ?_
  refine zz_i (v := 24) (by decide) ?_
  refine lv_iadd hx hb d_Sha_digest_96 ?_
  refine zz_i (v := 24) (by decide) ?_
  refine lv_aload_n hx hb d_Sha_digest_97 rfl (lv_at hl 6 rfl) ?_
  refine va_get (D := (dC, dI)) (ci := 2) (v := .ref h2) (C := R_Sha) (T := F_Sha) (N := 2) hx hb hT i_Sha hown hK hP 1 rfl rfl 1 (by decide) (hT _ k_20) (fun _ h9 => h9) rfl d_Sha_digest_98 ?_
  refine lv_iload hx hb d_Sha_digest_101 (lv_at hl 0 rfl) ?_
  refine va_iald hx hb hK hP 3 1 rfl rfl (by unfold vp_in; decide) d_Sha_digest_103 ?_
  refine lv_topi (fun x_31 _ => ?_)
  have hPc := hP.sub (ws' := [(h4, .inl (e4, 1024, .inl f_29))]) [4] rfl
  have hDc := hD.sub (ws' := [(h4, .inl (e4, 1024, .inl f_29))]) [4] (by decide) rfl
  have hKc := hK.sub (tys' := [(e4, .byte)]) [3] rfl
  have hFc := va_free (wc := [(h4, .inl (e4, 1024, .inl f_29))]) hD hS hA [4] rfl
  refine va_callv (va_runSN (As := [.ref h4, .int 24, .int x_31]) (rest := []) ⟨hx, hb, hml, hown, hT⟩ (c_CL_putNumber l dC dI z H.size h4 e4 1024 f_29 24 x_31 hf_30 (by omega) (by omega)) ⟨va_cnB (host := "ChainLedger") 3 hT g_CL_putNumber rfl rfl rfl (zn_k_123 (zz_N hZ)) (hT _ k_100) (by decide +kernel) ⟨Nat.le_of_ble_eq_true rfl, Nat.le_of_ble_eq_true rfl⟩, (hT _ k_101), trivial⟩ (zz_pre hPc hKc hDc hZ hS hFc) rfl rfl hl.1 rfl (lv_room (Nat.le_of_ble_eq_true rfl)) d_Sha_digest_104 ⟨Nat.le_of_ble_eq_true rfl, Nat.le_of_ble_eq_true rfl⟩) hS (fun q _ h => hFc q h) hFc (fun u9 t9 H1 locs ht9 hvm9 hw9 hB9 hz19 hk19 hS => ?_)
  obtain ⟨f_33, hf_34, hP1, hK1, hD1⟩ := hB9
  rw [ht9] at hP1
  obtain ⟨hP, hD⟩ := va_join (wr := [(h3, .inl (e3, 4096, .inl f3)), (h0, .inr (2, [.ref h1, .ref h2])), (h1, .inl (e1, 64, .inl f_5)), (h2, .inl (e2, 8, .inl f_6))]) (w1 := [(h4, .inl (e4, 1024, .inl f_33))]) hP hD [4] [0, 1, 2, 3] rfl rfl (by decide) (by decide) hk19 hFc hP1 hD1
  generalize H1 = H at hP hS ⊢
  have hP : va_P (dC, dI) cl_all [(h3, .inl (e3, 4096, .inl f3)), (h0, .inr (2, [.ref h1, .ref h2])), (h1, .inl (e1, 64, .inl f_5)), (h2, .inl (e2, 8, .inl f_6)), (h4, .inl (e4, 1024, .inl f_33))] H := hP
  have hD : va_D A [(h3, .inl (e3, 4096, .inl f3)), (h0, .inr (2, [.ref h1, .ref h2])), (h1, .inl (e1, 64, .inl f_5)), (h2, .inl (e2, 8, .inl f_6)), (h4, .inl (e4, 1024, .inl f_33))] := hD
  refine lv_iinc (v := 7) (lv' := [(12, .int 7), (11, .int 1), (10, .int 0), (9, .int 17), (8, .int 77), (7, .ref h3), (0, .ref h0), (1, .ref h3), (2, .int 77), (3, .int 17), (4, .int 2), (5, .ref h4), (6, .int 0)]) hx hb d_Sha_digest_107 hl (k := 0) rfl (by decide) (by decide) rfl (fun ls hl => ?_)
  refine lv_goto (tgt := 81) hx hb d_Sha_digest_110 (by decide) ?_
  refine lv_iload hx hb d_Sha_digest_81 (lv_at hl 0 rfl) ?_
  refine lv_bipush (v := 8) hx hb d_Sha_digest_83 (by decide) ?_
  refine lv_icmp_ge (tgt := 113) hx hb d_Sha_digest_85 (by decide) (fun h => absurd h (by decide)) (fun _ => ?_)
  refine lv_aload hx hb d_Sha_digest_88 (lv_at hl 11 rfl) ?_
  refine lv_iload hx hb d_Sha_digest_90 (lv_at hl 12 rfl) ?_
  refine lv_iload hx hb d_Sha_digest_92 (lv_at hl 0 rfl) ?_
  refine lv_iconst (v := 4) hx hb d_Sha_digest_94 (by decide) ?_
  refine lv_imul hx hb d_Sha_digest_95 ?_
  refine zz_i (v := 28) (by decide) ?_
  refine lv_iadd hx hb d_Sha_digest_96 ?_
  refine zz_i (v := 28) (by decide) ?_
  refine lv_aload_n hx hb d_Sha_digest_97 rfl (lv_at hl 6 rfl) ?_
  refine va_get (D := (dC, dI)) (ci := 2) (v := .ref h2) (C := R_Sha) (T := F_Sha) (N := 2) hx hb hT i_Sha hown hK hP 1 rfl rfl 1 (by decide) (hT _ k_20) (fun _ h9 => h9) rfl d_Sha_digest_98 ?_
  refine lv_iload hx hb d_Sha_digest_101 (lv_at hl 0 rfl) ?_
  refine va_iald hx hb hK hP 3 1 rfl rfl (by unfold vp_in; decide) d_Sha_digest_103 ?_
  refine lv_topi (fun x_35 _ => ?_)
  have hPc := hP.sub (ws' := [(h4, .inl (e4, 1024, .inl f_33))]) [4] rfl
  have hDc := hD.sub (ws' := [(h4, .inl (e4, 1024, .inl f_33))]) [4] (by decide) rfl
  have hKc := hK.sub (tys' := [(e4, .byte)]) [3] rfl
  have hFc := va_free (wc := [(h4, .inl (e4, 1024, .inl f_33))]) hD hS hA [4] rfl
  refine va_callv (va_runSN (As := [.ref h4, .int 28, .int x_35]) (rest := []) ⟨hx, hb, hml, hown, hT⟩ (c_CL_putNumber l dC dI z H.size h4 e4 1024 f_33 28 x_35 hf_34 (by omega) (by omega)) ⟨va_cnB (host := "ChainLedger") 3 hT g_CL_putNumber rfl rfl rfl (zn_k_123 (zz_N hZ)) (hT _ k_100) (by decide +kernel) ⟨Nat.le_of_ble_eq_true rfl, Nat.le_of_ble_eq_true rfl⟩, (hT _ k_101), trivial⟩ (zz_pre hPc hKc hDc hZ hS hFc) rfl rfl hl.1 rfl (lv_room (Nat.le_of_ble_eq_true rfl)) d_Sha_digest_104 ⟨Nat.le_of_ble_eq_true rfl, Nat.le_of_ble_eq_true rfl⟩) hS (fun q _ h => hFc q h) hFc (fun u9 t9 H1 locs ht9 hvm9 hw9 hB9 hz19 hk19 hS => ?_)
  obtain ⟨f_37, hf_38, hP1, hK1, hD1⟩ := hB9
  rw [ht9] at hP1
  obtain ⟨hP, hD⟩ := va_join (wr := [(h3, .inl (e3, 4096, .inl f3)), (h0, .inr (2, [.ref h1, .ref h2])), (h1, .inl (e1, 64, .inl f_5)), (h2, .inl (e2, 8, .inl f_6))]) (w1 := [(h4, .inl (e4, 1024, .inl f_37))]) hP hD [4] [0, 1, 2, 3] rfl rfl (by decide) (by decide) hk19 hFc hP1 hD1
  generalize H1 = H at hP hS ⊢
  have hP : va_P (dC, dI) cl_all [(h3, .inl (e3, 4096, .inl f3)), (h0, .inr (2, [.ref h1, .ref h2])), (h1, .inl (e1, 64, .inl f_5)), (h2, .inl (e2, 8, .inl f_6)), (h4, .inl (e4, 1024, .inl f_37))] H := hP
  have hD : va_D A [(h3, .inl (e3, 4096, .inl f3)), (h0, .inr (2, [.ref h1, .ref h2])), (h1, .inl (e1, 64, .inl f_5)), (h2, .inl (e2, 8, .inl f_6)), (h4, .inl (e4, 1024, .inl f_37))] := hD
  refine lv_iinc (v := 8) (lv' := [(12, .int 8), (11, .int 1), (10, .int 0), (9, .int 17), (8, .int 77), (7, .ref h3), (0, .ref h0), (1, .ref h3), (2, .int 77), (3, .int 17), (4, .int 2), (5, .ref h4), (6, .int 0)]) hx hb d_Sha_digest_107 hl (k := 0) rfl (by decide) (by decide) rfl (fun ls hl => ?_)
  refine lv_goto (tgt := 81) hx hb d_Sha_digest_110 (by decide) ?_
  refine lv_iload hx hb d_Sha_digest_81 (lv_at hl 0 rfl) ?_
  refine lv_bipush (v := 8) hx hb d_Sha_digest_83 (by decide) ?_
  refine lv_icmp_ge (tgt := 113) hx hb d_Sha_digest_85 (by decide) (fun _ => ?_) (fun h => absurd (by decide) h)
  refine lv_aload hx hb d_Sha_digest_113 (lv_at hl 11 rfl) ?_
  refine lv_astore (lv' := [(7, .ref h4), (12, .int 8), (11, .int 1), (10, .int 0), (9, .int 17), (8, .int 77), (0, .ref h0), (1, .ref h3), (2, .int 77), (3, .int 17), (4, .int 2), (5, .ref h4), (6, .int 0)]) hx hb d_Sha_digest_115 hl (by decide) rfl (fun ls hl => ?_)
  refine lv_iload hx hb d_Sha_digest_117 (lv_at hl 12 rfl) ?_
  refine lv_istore (lv' := [(8, .int 0), (7, .ref h4), (12, .int 8), (11, .int 1), (10, .int 0), (9, .int 17), (0, .ref h0), (1, .ref h3), (2, .int 77), (3, .int 17), (4, .int 2), (5, .ref h4), (6, .int 0)]) hx hb d_Sha_digest_119 hl (by decide) rfl (fun ls hl => ?_)
  refine lv_bipush (v := 32) hx hb d_Sha_digest_121 (by decide) ?_
  refine lv_istore (lv' := [(9, .int 32), (8, .int 0), (7, .ref h4), (12, .int 8), (11, .int 1), (10, .int 0), (0, .ref h0), (1, .ref h3), (2, .int 77), (3, .int 17), (4, .int 2), (5, .ref h4), (6, .int 0)]) hx hb d_Sha_digest_123 hl (by decide) rfl (fun ls hl => ?_)
  refine lv_iinc (v := 1) (lv' := [(10, .int 1), (9, .int 32), (8, .int 0), (7, .ref h4), (12, .int 8), (11, .int 1), (0, .ref h0), (1, .ref h3), (2, .int 77), (3, .int 17), (4, .int 2), (5, .ref h4), (6, .int 0)]) hx hb d_Sha_digest_125 hl (k := 5) rfl (by decide) (by decide) rfl (fun ls hl => ?_)
  refine lv_goto (tgt := 12) hx hb d_Sha_digest_128 (by decide) ?_
  refine lv_iload hx hb d_Sha_digest_12 (lv_at hl 0 rfl) ?_
  refine lv_iload hx hb d_Sha_digest_14 (lv_at hl 10 rfl) ?_
  refine lv_icmp_ge (tgt := 131) hx hb d_Sha_digest_16 (by decide) (fun h => absurd h (by decide)) (fun _ => ?_)
  refine va_gets hx hb hZ.2.1 hS hown (hT _ k_114) (fun _ h9 => h9) d_Sha_digest_19 ?_
  refine lv_iconst (v := 0) hx hb d_Sha_digest_22 (by decide) ?_
  refine lv_aload_n hx hb d_Sha_digest_23 rfl (lv_at hl 6 rfl) ?_
  refine va_get (D := (dC, dI)) (ci := 2) (v := .ref h2) (C := R_Sha) (T := F_Sha) (N := 2) hx hb hT i_Sha hown hK hP 1 rfl rfl 1 (by decide) (hT _ k_20) (fun _ h9 => h9) rfl d_Sha_digest_24 ?_
  refine lv_iconst (v := 0) hx hb d_Sha_digest_27 (by decide) ?_
  refine lv_bipush (v := 8) hx hb d_Sha_digest_28 (by decide) ?_
  refine zz_copyt hx hb (by rw [hml]; exact hl.1.symm) hown (hT _ k_115) (hT _ k_103) (hT _ k_104) (hT _ k_105) hK hP hD hS hZ.2.2.1 3 1 rfl rfl (by decide) (by decide) (by decide) (by decide) (by decide) (Nat.le_of_ble_eq_true rfl) (Nat.le_of_ble_eq_true rfl) d_Sha_digest_30 (fun f_39 H locs hP hD hS => ?_)
  have hP : va_P (dC, dI) cl_all [(h3, .inl (e3, 4096, .inl f3)), (h0, .inr (2, [.ref h1, .ref h2])), (h1, .inl (e1, 64, .inl f_5)), (h2, .inl (e2, 8, .inl f_39)), (h4, .inl (e4, 1024, .inl f_37))] H := hP
  have hD : va_D A [(h3, .inl (e3, 4096, .inl f3)), (h0, .inr (2, [.ref h1, .ref h2])), (h1, .inl (e1, 64, .inl f_5)), (h2, .inl (e2, 8, .inl f_39)), (h4, .inl (e4, 1024, .inl f_37))] := hD
  refine lv_iload hx hb d_Sha_digest_33 (lv_at hl 1 rfl) ?_
  refine lv_bipush (v := 72) hx hb d_Sha_digest_35 (by decide) ?_
  refine lv_iadd hx hb d_Sha_digest_37 ?_
  refine zz_i (v := 104) (by decide) ?_
  refine lv_bipush (v := 64) hx hb d_Sha_digest_38 (by decide) ?_
  refine lv_idiv hx hb d_Sha_digest_40 (by decide) ?_
  refine zz_i (v := 1) (by decide) ?_
  refine lv_istore (lv' := [(11, .int 1), (10, .int 1), (9, .int 32), (8, .int 0), (7, .ref h4), (12, .int 8), (0, .ref h0), (1, .ref h3), (2, .int 77), (3, .int 17), (4, .int 2), (5, .ref h4), (6, .int 0)]) hx hb d_Sha_digest_41 hl (by decide) rfl (fun ls hl => ?_)
  refine lv_iconst (v := 0) hx hb d_Sha_digest_43 (by decide) ?_
  refine lv_istore (lv' := [(12, .int 0), (11, .int 1), (10, .int 1), (9, .int 32), (8, .int 0), (7, .ref h4), (0, .ref h0), (1, .ref h3), (2, .int 77), (3, .int 17), (4, .int 2), (5, .ref h4), (6, .int 0)]) hx hb d_Sha_digest_44 hl (by decide) rfl (fun ls hl => ?_)
  refine lv_iload hx hb d_Sha_digest_46 (lv_at hl 0 rfl) ?_
  refine lv_iload hx hb d_Sha_digest_48 (lv_at hl 1 rfl) ?_
  refine lv_icmp_ge (tgt := 78) hx hb d_Sha_digest_50 (by decide) (fun h => absurd h (by decide)) (fun _ => ?_)
  refine lv_aload_n hx hb d_Sha_digest_53 rfl (lv_at hl 6 rfl) ?_
  refine lv_aload hx hb d_Sha_digest_54 (lv_at hl 5 rfl) ?_
  refine lv_iload hx hb d_Sha_digest_56 (lv_at hl 4 rfl) ?_
  refine lv_iload hx hb d_Sha_digest_58 (lv_at hl 3 rfl) ?_
  refine lv_iload hx hb d_Sha_digest_60 (lv_at hl 0 rfl) ?_
  refine lv_bipush (v := 64) hx hb d_Sha_digest_62 (by decide) ?_
  refine lv_imul hx hb d_Sha_digest_64 ?_
  refine zz_i (v := 0) (by decide) ?_
  have hPc := hP.sub (ws' := [(h0, .inr (2, [.ref h1, .ref h2])), (h1, .inl (e1, 64, .inl f_5)), (h4, .inl (e4, 1024, .inl f_37))]) [1, 2, 4] rfl
  have hDc := hD.sub (ws' := [(h0, .inr (2, [.ref h1, .ref h2])), (h1, .inl (e1, 64, .inl f_5)), (h4, .inl (e4, 1024, .inl f_37))]) [1, 2, 4] (by decide) rfl
  have hKc := hK.sub (tys' := [(e1, .int), (e4, .byte)]) [0, 3] rfl
  have hFc := va_free (wc := [(h0, .inr (2, [.ref h1, .ref h2])), (h1, .inl (e1, 64, .inl f_5)), (h4, .inl (e4, 1024, .inl f_37))]) hD hS hA [1, 2, 4] rfl
  refine va_callv (va_runV (C := R_Sha) (As := [.ref h4, .int 0, .int 32, .int 0]) (rest := []) ⟨hx, hb, hml, hown, hT⟩ (c_Sha_load32 l dC dI z H.size h0 h1 h2 h4 e1 e4 1024 f_5 f_37 (by omega) (by omega)) ⟨callB_of 4 hT g_Sha_load rfl rfl rfl (hT _ k_116) (hT _ k_117) (by decide +kernel) ⟨Nat.le_of_ble_eq_true rfl, Nat.le_of_ble_eq_true rfl⟩, (hT _ k_118), (hT _ k_119)⟩ (zz_preV hPc hKc hDc hZ hS hFc hK hP (ci := 2) (q0 := 1) (q := (R_Sha, F_Sha, 2)) rfl rfl) rfl rfl hl.1 rfl (lv_room (Nat.le_of_ble_eq_true rfl)) d_Sha_digest_65 ⟨Nat.le_of_ble_eq_true rfl, Nat.le_of_ble_eq_true rfl⟩) hS (fun q _ h => hFc q h) hFc (fun u9 t9 H1 locs ht9 hvm9 hw9 hB9 hz19 hk19 hS => ?_)
  obtain ⟨f_41, hP1, hK1, hD1⟩ := hB9
  rw [ht9] at hP1
  obtain ⟨hP, hD⟩ := va_join (wr := [(h3, .inl (e3, 4096, .inl f3)), (h2, .inl (e2, 8, .inl f_39))]) (w1 := [(h0, .inr (2, [.ref h1, .ref h2])), (h1, .inl (e1, 64, .inl f_41)), (h4, .inl (e4, 1024, .inl f_37))]) hP hD [1, 2, 4] [0, 3] rfl rfl (by decide) (by decide) hk19 hFc hP1 hD1
  generalize H1 = H at hP hS ⊢
  have hP : va_P (dC, dI) cl_all [(h3, .inl (e3, 4096, .inl f3)), (h2, .inl (e2, 8, .inl f_39)), (h0, .inr (2, [.ref h1, .ref h2])), (h1, .inl (e1, 64, .inl f_41)), (h4, .inl (e4, 1024, .inl f_37))] H := hP
  have hD : va_D A [(h3, .inl (e3, 4096, .inl f3)), (h2, .inl (e2, 8, .inl f_39)), (h0, .inr (2, [.ref h1, .ref h2])), (h1, .inl (e1, 64, .inl f_41)), (h4, .inl (e4, 1024, .inl f_37))] := hD
  refine lv_aload_n hx hb d_Sha_digest_68 rfl (lv_at hl 6 rfl) ?_
  have hPc := hP.sub (ws' := [(h0, .inr (2, [.ref h1, .ref h2])), (h1, .inl (e1, 64, .inl f_41)), (h2, .inl (e2, 8, .inl f_39))]) [2, 3, 1] rfl
  have hDc := hD.sub (ws' := [(h0, .inr (2, [.ref h1, .ref h2])), (h1, .inl (e1, 64, .inl f_41)), (h2, .inl (e2, 8, .inl f_39))]) [2, 3, 1] (by decide) rfl
  have hKc := hK.sub (tys' := [(e1, .int), (e2, .int)]) [0, 1] rfl
  have hFc := va_free (wc := [(h0, .inr (2, [.ref h1, .ref h2])), (h1, .inl (e1, 64, .inl f_41)), (h2, .inl (e2, 8, .inl f_39))]) hD hS hA [2, 3, 1] rfl
  refine va_callv (va_runV (C := R_Sha) (As := []) (rest := []) ⟨hx, hb, hml, hown, hT⟩ (c_Sha_mix l dC dI z H.size h0 h1 h2 e1 e2 f_41 f_39) ⟨callB_of 0 hT g_Sha_mix rfl rfl rfl (hT _ k_116) (hT _ k_120) (by decide +kernel) ⟨Nat.le_of_ble_eq_true rfl, Nat.le_of_ble_eq_true rfl⟩, (hT _ k_121), (hT _ k_122)⟩ (zz_preV hPc hKc hDc hZ hS hFc hK hP (ci := 2) (q0 := 2) (q := (R_Sha, F_Sha, 2)) rfl rfl) rfl rfl hl.1 rfl (lv_room (Nat.le_of_ble_eq_true rfl)) d_Sha_digest_69 ⟨Nat.le_of_ble_eq_true rfl, Nat.le_of_ble_eq_true rfl⟩) hS (fun q _ h => hFc q h) hFc (fun u9 t9 H1 locs ht9 hvm9 hw9 hB9 hz19 hk19 hS => ?_)
  obtain ⟨f_43, f_44, hP1, hK1, hD1⟩ := hB9
  rw [ht9] at hP1
  obtain ⟨hP, hD⟩ := va_join (wr := [(h3, .inl (e3, 4096, .inl f3)), (h4, .inl (e4, 1024, .inl f_37))]) (w1 := [(h0, .inr (2, [.ref h1, .ref h2])), (h1, .inl (e1, 64, .inl f_43)), (h2, .inl (e2, 8, .inl f_44))]) hP hD [2, 3, 1] [0, 4] rfl rfl (by decide) (by decide) hk19 hFc hP1 hD1
  generalize H1 = H at hP hS ⊢
  have hP : va_P (dC, dI) cl_all [(h3, .inl (e3, 4096, .inl f3)), (h4, .inl (e4, 1024, .inl f_37)), (h0, .inr (2, [.ref h1, .ref h2])), (h1, .inl (e1, 64, .inl f_43)), (h2, .inl (e2, 8, .inl f_44))] H := hP
  have hD : va_D A [(h3, .inl (e3, 4096, .inl f3)), (h4, .inl (e4, 1024, .inl f_37)), (h0, .inr (2, [.ref h1, .ref h2])), (h1, .inl (e1, 64, .inl f_43)), (h2, .inl (e2, 8, .inl f_44))] := hD
  refine lv_iinc (v := 1) (lv' := [(12, .int 1), (11, .int 1), (10, .int 1), (9, .int 32), (8, .int 0), (7, .ref h4), (0, .ref h0), (1, .ref h3), (2, .int 77), (3, .int 17), (4, .int 2), (5, .ref h4), (6, .int 0)]) hx hb d_Sha_digest_72 hl (k := 0) rfl (by decide) (by decide) rfl (fun ls hl => ?_)
  refine lv_goto (tgt := 46) hx hb d_Sha_digest_75 (by decide) ?_
  refine lv_iload hx hb d_Sha_digest_46 (lv_at hl 0 rfl) ?_
  refine lv_iload hx hb d_Sha_digest_48 (lv_at hl 1 rfl) ?_
  refine lv_icmp_ge (tgt := 78) hx hb d_Sha_digest_50 (by decide) (fun _ => ?_) (fun h => absurd (by decide) h)
  refine lv_iconst (v := 0) hx hb d_Sha_digest_78 (by decide) ?_
  refine lv_istore (lv' := [(12, .int 0), (11, .int 1), (10, .int 1), (9, .int 32), (8, .int 0), (7, .ref h4), (0, .ref h0), (1, .ref h3), (2, .int 77), (3, .int 17), (4, .int 2), (5, .ref h4), (6, .int 0)]) hx hb d_Sha_digest_79 hl (by decide) rfl (fun ls hl => ?_)
  refine lv_iload hx hb d_Sha_digest_81 (lv_at hl 0 rfl) ?_
  refine lv_bipush (v := 8) hx hb d_Sha_digest_83 (by decide) ?_
  refine lv_icmp_ge (tgt := 113) hx hb d_Sha_digest_85 (by decide) (fun h => absurd h (by decide)) (fun _ => ?_)
  refine lv_aload hx hb d_Sha_digest_88 (lv_at hl 11 rfl) ?_
  refine lv_iload hx hb d_Sha_digest_90 (lv_at hl 12 rfl) ?_
  refine lv_iload hx hb d_Sha_digest_92 (lv_at hl 0 rfl) ?_
  refine lv_iconst (v := 4) hx hb d_Sha_digest_94 (by decide) ?_
  refine lv_imul hx hb d_Sha_digest_95 ?_
  refine zz_i (v := 0) (by decide) ?_
  refine lv_iadd hx hb d_Sha_digest_96 ?_
  refine zz_i (v := 0) (by decide) ?_
  refine lv_aload_n hx hb d_Sha_digest_97 rfl (lv_at hl 6 rfl) ?_
  refine va_get (D := (dC, dI)) (ci := 2) (v := .ref h2) (C := R_Sha) (T := F_Sha) (N := 2) hx hb hT i_Sha hown hK hP 2 rfl rfl 1 (by decide) (hT _ k_20) (fun _ h9 => h9) rfl d_Sha_digest_98 ?_
  refine lv_iload hx hb d_Sha_digest_101 (lv_at hl 0 rfl) ?_
  refine va_iald hx hb hK hP 4 1 rfl rfl (by unfold vp_in; decide) d_Sha_digest_103 ?_
  refine lv_topi (fun x_45 _ => ?_)
  have hPc := hP.sub (ws' := [(h4, .inl (e4, 1024, .inl f_37))]) [1] rfl
  have hDc := hD.sub (ws' := [(h4, .inl (e4, 1024, .inl f_37))]) [1] (by decide) rfl
  have hKc := hK.sub (tys' := [(e4, .byte)]) [3] rfl
  have hFc := va_free (wc := [(h4, .inl (e4, 1024, .inl f_37))]) hD hS hA [1] rfl
  refine va_callv (va_runSN (As := [.ref h4, .int 0, .int x_45]) (rest := []) ⟨hx, hb, hml, hown, hT⟩ (c_CL_putNumber l dC dI z H.size h4 e4 1024 f_37 0 x_45 hf_38 (by omega) (by omega)) ⟨va_cnB (host := "ChainLedger") 3 hT g_CL_putNumber rfl rfl rfl (zn_k_123 (zz_N hZ)) (hT _ k_100) (by decide +kernel) ⟨Nat.le_of_ble_eq_true rfl, Nat.le_of_ble_eq_true rfl⟩, (hT _ k_101), trivial⟩ (zz_pre hPc hKc hDc hZ hS hFc) rfl rfl hl.1 rfl (lv_room (Nat.le_of_ble_eq_true rfl)) d_Sha_digest_104 ⟨Nat.le_of_ble_eq_true rfl, Nat.le_of_ble_eq_true rfl⟩) hS (fun q _ h => hFc q h) hFc (fun u9 t9 H1 locs ht9 hvm9 hw9 hB9 hz19 hk19 hS => ?_)
  obtain ⟨f_47, hf_48, hP1, hK1, hD1⟩ := hB9
  rw [ht9] at hP1
  obtain ⟨hP, hD⟩ := va_join (wr := [(h3, .inl (e3, 4096, .inl f3)), (h0, .inr (2, [.ref h1, .ref h2])), (h1, .inl (e1, 64, .inl f_43)), (h2, .inl (e2, 8, .inl f_44))]) (w1 := [(h4, .inl (e4, 1024, .inl f_47))]) hP hD [1] [0, 2, 3, 4] rfl rfl (by decide) (by decide) hk19 hFc hP1 hD1
  generalize H1 = H at hP hS ⊢
  have hP : va_P (dC, dI) cl_all [(h3, .inl (e3, 4096, .inl f3)), (h0, .inr (2, [.ref h1, .ref h2])), (h1, .inl (e1, 64, .inl f_43)), (h2, .inl (e2, 8, .inl f_44)), (h4, .inl (e4, 1024, .inl f_47))] H := hP
  have hD : va_D A [(h3, .inl (e3, 4096, .inl f3)), (h0, .inr (2, [.ref h1, .ref h2])), (h1, .inl (e1, 64, .inl f_43)), (h2, .inl (e2, 8, .inl f_44)), (h4, .inl (e4, 1024, .inl f_47))] := hD
  refine lv_iinc (v := 1) (lv' := [(12, .int 1), (11, .int 1), (10, .int 1), (9, .int 32), (8, .int 0), (7, .ref h4), (0, .ref h0), (1, .ref h3), (2, .int 77), (3, .int 17), (4, .int 2), (5, .ref h4), (6, .int 0)]) hx hb d_Sha_digest_107 hl (k := 0) rfl (by decide) (by decide) rfl (fun ls hl => ?_)
  refine lv_goto (tgt := 81) hx hb d_Sha_digest_110 (by decide) ?_
  refine lv_iload hx hb d_Sha_digest_81 (lv_at hl 0 rfl) ?_
  refine lv_bipush (v := 8) hx hb d_Sha_digest_83 (by decide) ?_
  refine lv_icmp_ge (tgt := 113) hx hb d_Sha_digest_85 (by decide) (fun h => absurd h (by decide)) (fun _ => ?_)
  refine lv_aload hx hb d_Sha_digest_88 (lv_at hl 11 rfl) ?_
  refine lv_iload hx hb d_Sha_digest_90 (lv_at hl 12 rfl) ?_
  refine lv_iload hx hb d_Sha_digest_92 (lv_at hl 0 rfl) ?_
  refine lv_iconst (v := 4) hx hb d_Sha_digest_94 (by decide) ?_
  refine lv_imul hx hb d_Sha_digest_95 ?_
  refine zz_i (v := 4) (by decide) ?_
  refine lv_iadd hx hb d_Sha_digest_96 ?_
  refine zz_i (v := 4) (by decide) ?_
  refine lv_aload_n hx hb d_Sha_digest_97 rfl (lv_at hl 6 rfl) ?_
  refine va_get (D := (dC, dI)) (ci := 2) (v := .ref h2) (C := R_Sha) (T := F_Sha) (N := 2) hx hb hT i_Sha hown hK hP 1 rfl rfl 1 (by decide) (hT _ k_20) (fun _ h9 => h9) rfl d_Sha_digest_98 ?_
  refine lv_iload hx hb d_Sha_digest_101 (lv_at hl 0 rfl) ?_
  refine va_iald hx hb hK hP 3 1 rfl rfl (by unfold vp_in; decide) d_Sha_digest_103 ?_
  refine lv_topi (fun x_49 _ => ?_)
  have hPc := hP.sub (ws' := [(h4, .inl (e4, 1024, .inl f_47))]) [4] rfl
  have hDc := hD.sub (ws' := [(h4, .inl (e4, 1024, .inl f_47))]) [4] (by decide) rfl
  have hKc := hK.sub (tys' := [(e4, .byte)]) [3] rfl
  have hFc := va_free (wc := [(h4, .inl (e4, 1024, .inl f_47))]) hD hS hA [4] rfl
  refine va_callv (va_runSN (As := [.ref h4, .int 4, .int x_49]) (rest := []) ⟨hx, hb, hml, hown, hT⟩ (c_CL_putNumber l dC dI z H.size h4 e4 1024 f_47 4 x_49 hf_48 (by omega) (by omega)) ⟨va_cnB (host := "ChainLedger") 3 hT g_CL_putNumber rfl rfl rfl (zn_k_123 (zz_N hZ)) (hT _ k_100) (by decide +kernel) ⟨Nat.le_of_ble_eq_true rfl, Nat.le_of_ble_eq_true rfl⟩, (hT _ k_101), trivial⟩ (zz_pre hPc hKc hDc hZ hS hFc) rfl rfl hl.1 rfl (lv_room (Nat.le_of_ble_eq_true rfl)) d_Sha_digest_104 ⟨Nat.le_of_ble_eq_true rfl, Nat.le_of_ble_eq_true rfl⟩) hS (fun q _ h => hFc q h) hFc (fun u9 t9 H1 locs ht9 hvm9 hw9 hB9 hz19 hk19 hS => ?_)
  obtain ⟨f_51, hf_52, hP1, hK1, hD1⟩ := hB9
  rw [ht9] at hP1
  obtain ⟨hP, hD⟩ := va_join (wr := [(h3, .inl (e3, 4096, .inl f3)), (h0, .inr (2, [.ref h1, .ref h2])), (h1, .inl (e1, 64, .inl f_43)), (h2, .inl (e2, 8, .inl f_44))]) (w1 := [(h4, .inl (e4, 1024, .inl f_51))]) hP hD [4] [0, 1, 2, 3] rfl rfl (by decide) (by decide) hk19 hFc hP1 hD1
  generalize H1 = H at hP hS ⊢
  have hP : va_P (dC, dI) cl_all [(h3, .inl (e3, 4096, .inl f3)), (h0, .inr (2, [.ref h1, .ref h2])), (h1, .inl (e1, 64, .inl f_43)), (h2, .inl (e2, 8, .inl f_44)), (h4, .inl (e4, 1024, .inl f_51))] H := hP
  have hD : va_D A [(h3, .inl (e3, 4096, .inl f3)), (h0, .inr (2, [.ref h1, .ref h2])), (h1, .inl (e1, 64, .inl f_43)), (h2, .inl (e2, 8, .inl f_44)), (h4, .inl (e4, 1024, .inl f_51))] := hD
  refine lv_iinc (v := 2) (lv' := [(12, .int 2), (11, .int 1), (10, .int 1), (9, .int 32), (8, .int 0), (7, .ref h4), (0, .ref h0), (1, .ref h3), (2, .int 77), (3, .int 17), (4, .int 2), (5, .ref h4), (6, .int 0)]) hx hb d_Sha_digest_107 hl (k := 0) rfl (by decide) (by decide) rfl (fun ls hl => ?_)
  refine lv_goto (tgt := 81) hx hb d_Sha_digest_110 (by decide) ?_
  refine lv_iload hx hb d_Sha_digest_81 (lv_at hl 0 rfl) ?_
  refine lv_bipush (v := 8) hx hb d_Sha_digest_83 (by decide) ?_
  refine lv_icmp_ge (tgt := 113) hx hb d_Sha_digest_85 (by decide) (fun h => absurd h (by decide)) (fun _ => ?_)
  refine lv_aload hx hb d_Sha_digest_88 (lv_at hl 11 rfl) ?_
  refine lv_iload hx hb d_Sha_digest_90 (lv_at hl 12 rfl) ?_
  refine lv_iload hx hb d_Sha_digest_92 (lv_at hl 0 rfl) ?_
  refine lv_iconst (v := 4) hx hb d_Sha_digest_94 (by decide) ?_
  refine lv_imul hx hb d_Sha_digest_95 ?_
  refine zz_i (v := 8) (by decide) ?_
  refine lv_iadd hx hb d_Sha_digest_96 ?_
  refine zz_i (v := 8) (by decide) ?_
  refine lv_aload_n hx hb d_Sha_digest_97 rfl (lv_at hl 6 rfl) ?_
  refine va_get (D := (dC, dI)) (ci := 2) (v := .ref h2) (C := R_Sha) (T := F_Sha) (N := 2) hx hb hT i_Sha hown hK hP 1 rfl rfl 1 (by decide) (hT _ k_20) (fun _ h9 => h9) rfl d_Sha_digest_98 ?_
  refine lv_iload hx hb d_Sha_digest_101 (lv_at hl 0 rfl) ?_
  refine va_iald hx hb hK hP 3 1 rfl rfl (by unfold vp_in; decide) d_Sha_digest_103 ?_
  refine lv_topi (fun x_53 _ => ?_)
  have hPc := hP.sub (ws' := [(h4, .inl (e4, 1024, .inl f_51))]) [4] rfl
  have hDc := hD.sub (ws' := [(h4, .inl (e4, 1024, .inl f_51))]) [4] (by decide) rfl
  have hKc := hK.sub (tys' := [(e4, .byte)]) [3] rfl
  have hFc := va_free (wc := [(h4, .inl (e4, 1024, .inl f_51))]) hD hS hA [4] rfl
  refine va_callv (va_runSN (As := [.ref h4, .int 8, .int x_53]) (rest := []) ⟨hx, hb, hml, hown, hT⟩ (c_CL_putNumber l dC dI z H.size h4 e4 1024 f_51 8 x_53 hf_52 (by omega) (by omega)) ⟨va_cnB (host := "ChainLedger") 3 hT g_CL_putNumber rfl rfl rfl (zn_k_123 (zz_N hZ)) (hT _ k_100) (by decide +kernel) ⟨Nat.le_of_ble_eq_true rfl, Nat.le_of_ble_eq_true rfl⟩, (hT _ k_101), trivial⟩ (zz_pre hPc hKc hDc hZ hS hFc) rfl rfl hl.1 rfl (lv_room (Nat.le_of_ble_eq_true rfl)) d_Sha_digest_104 ⟨Nat.le_of_ble_eq_true rfl, Nat.le_of_ble_eq_true rfl⟩) hS (fun q _ h => hFc q h) hFc (fun u9 t9 H1 locs ht9 hvm9 hw9 hB9 hz19 hk19 hS => ?_)
  obtain ⟨f_55, hf_56, hP1, hK1, hD1⟩ := hB9
  rw [ht9] at hP1
  obtain ⟨hP, hD⟩ := va_join (wr := [(h3, .inl (e3, 4096, .inl f3)), (h0, .inr (2, [.ref h1, .ref h2])), (h1, .inl (e1, 64, .inl f_43)), (h2, .inl (e2, 8, .inl f_44))]) (w1 := [(h4, .inl (e4, 1024, .inl f_55))]) hP hD [4] [0, 1, 2, 3] rfl rfl (by decide) (by decide) hk19 hFc hP1 hD1
  generalize H1 = H at hP hS ⊢
  have hP : va_P (dC, dI) cl_all [(h3, .inl (e3, 4096, .inl f3)), (h0, .inr (2, [.ref h1, .ref h2])), (h1, .inl (e1, 64, .inl f_43)), (h2, .inl (e2, 8, .inl f_44)), (h4, .inl (e4, 1024, .inl f_55))] H := hP
  have hD : va_D A [(h3, .inl (e3, 4096, .inl f3)), (h0, .inr (2, [.ref h1, .ref h2])), (h1, .inl (e1, 64, .inl f_43)), (h2, .inl (e2, 8, .inl f_44)), (h4, .inl (e4, 1024, .inl f_55))] := hD
  refine lv_iinc (v := 3) (lv' := [(12, .int 3), (11, .int 1), (10, .int 1), (9, .int 32), (8, .int 0), (7, .ref h4), (0, .ref h0), (1, .ref h3), (2, .int 77), (3, .int 17), (4, .int 2), (5, .ref h4), (6, .int 0)]) hx hb d_Sha_digest_107 hl (k := 0) rfl (by decide) (by decide) rfl (fun ls hl => ?_)
  refine lv_goto (tgt := 81) hx hb d_Sha_digest_110 (by decide) ?_
  refine lv_iload hx hb d_Sha_digest_81 (lv_at hl 0 rfl) ?_
  refine lv_bipush (v := 8) hx hb d_Sha_digest_83 (by decide) ?_
  refine lv_icmp_ge (tgt := 113) hx hb d_Sha_digest_85 (by decide) (fun h => absurd h (by decide)) (fun _ => ?_)
  refine lv_aload hx hb d_Sha_digest_88 (lv_at hl 11 rfl) ?_
  refine lv_iload hx hb d_Sha_digest_90 (lv_at hl 12 rfl) ?_
  refine lv_iload hx hb d_Sha_digest_92 (lv_at hl 0 rfl) ?_
  refine lv_iconst (v := 4) hx hb d_Sha_digest_94 (by decide) ?_
  refine lv_imul hx hb d_Sha_digest_95 ?_
  refine zz_i (v := 12) (by decide) ?_
  refine lv_iadd hx hb d_Sha_digest_96 ?_
  refine zz_i (v := 12) (by decide) ?_
  refine lv_aload_n hx hb d_Sha_digest_97 rfl (lv_at hl 6 rfl) ?_
  refine va_get (D := (dC, dI)) (ci := 2) (v := .ref h2) (C := R_Sha) (T := F_Sha) (N := 2) hx hb hT i_Sha hown hK hP 1 rfl rfl 1 (by decide) (hT _ k_20) (fun _ h9 => h9) rfl d_Sha_digest_98 ?_
  refine lv_iload hx hb d_Sha_digest_101 (lv_at hl 0 rfl) ?_
  refine va_iald hx hb hK hP 3 1 rfl rfl (by unfold vp_in; decide) d_Sha_digest_103 ?_
  refine lv_topi (fun x_57 _ => ?_)
  have hPc := hP.sub (ws' := [(h4, .inl (e4, 1024, .inl f_55))]) [4] rfl
  have hDc := hD.sub (ws' := [(h4, .inl (e4, 1024, .inl f_55))]) [4] (by decide) rfl
  have hKc := hK.sub (tys' := [(e4, .byte)]) [3] rfl
  have hFc := va_free (wc := [(h4, .inl (e4, 1024, .inl f_55))]) hD hS hA [4] rfl
  refine va_callv (va_runSN (As := [.ref h4, .int 12, .int x_57]) (rest := []) ⟨hx, hb, hml, hown, hT⟩ (c_CL_putNumber l dC dI z H.size h4 e4 1024 f_55 12 x_57 hf_56 (by omega) (by omega)) ⟨va_cnB (host := "ChainLedger") 3 hT g_CL_putNumber rfl rfl rfl (zn_k_123 (zz_N hZ)) (hT _ k_100) (by decide +kernel) ⟨Nat.le_of_ble_eq_true rfl, Nat.le_of_ble_eq_true rfl⟩, (hT _ k_101), trivial⟩ (zz_pre hPc hKc hDc hZ hS hFc) rfl rfl hl.1 rfl (lv_room (Nat.le_of_ble_eq_true rfl)) d_Sha_digest_104 ⟨Nat.le_of_ble_eq_true rfl, Nat.le_of_ble_eq_true rfl⟩) hS (fun q _ h => hFc q h) hFc (fun u9 t9 H1 locs ht9 hvm9 hw9 hB9 hz19 hk19 hS => ?_)
  obtain ⟨f_59, hf_60, hP1, hK1, hD1⟩ := hB9
  rw [ht9] at hP1
  obtain ⟨hP, hD⟩ := va_join (wr := [(h3, .inl (e3, 4096, .inl f3)), (h0, .inr (2, [.ref h1, .ref h2])), (h1, .inl (e1, 64, .inl f_43)), (h2, .inl (e2, 8, .inl f_44))]) (w1 := [(h4, .inl (e4, 1024, .inl f_59))]) hP hD [4] [0, 1, 2, 3] rfl rfl (by decide) (by decide) hk19 hFc hP1 hD1
  generalize H1 = H at hP hS ⊢
  have hP : va_P (dC, dI) cl_all [(h3, .inl (e3, 4096, .inl f3)), (h0, .inr (2, [.ref h1, .ref h2])), (h1, .inl (e1, 64, .inl f_43)), (h2, .inl (e2, 8, .inl f_44)), (h4, .inl (e4, 1024, .inl f_59))] H := hP
  have hD : va_D A [(h3, .inl (e3, 4096, .inl f3)), (h0, .inr (2, [.ref h1, .ref h2])), (h1, .inl (e1, 64, .inl f_43)), (h2, .inl (e2, 8, .inl f_44)), (h4, .inl (e4, 1024, .inl f_59))] := hD
  refine lv_iinc (v := 4) (lv' := [(12, .int 4), (11, .int 1), (10, .int 1), (9, .int 32), (8, .int 0), (7, .ref h4), (0, .ref h0), (1, .ref h3), (2, .int 77), (3, .int 17), (4, .int 2), (5, .ref h4), (6, .int 0)]) hx hb d_Sha_digest_107 hl (k := 0) rfl (by decide) (by decide) rfl (fun ls hl => ?_)
  refine lv_goto (tgt := 81) hx hb d_Sha_digest_110 (by decide) ?_
  refine lv_iload hx hb d_Sha_digest_81 (lv_at hl 0 rfl) ?_
  refine lv_bipush (v := 8) hx hb d_Sha_digest_83 (by decide) ?_
  refine lv_icmp_ge (tgt := 113) hx hb d_Sha_digest_85 (by decide) (fun h => absurd h (by decide)) (fun _ => ?_)
  refine lv_aload hx hb d_Sha_digest_88 (lv_at hl 11 rfl) ?_
  refine lv_iload hx hb d_Sha_digest_90 (lv_at hl 12 rfl) ?_
  refine lv_iload hx hb d_Sha_digest_92 (lv_at hl 0 rfl) ?_
  refine lv_iconst (v := 4) hx hb d_Sha_digest_94 (by decide) ?_
  refine lv_imul hx hb d_Sha_digest_95 ?_
  refine zz_i (v := 16) (by decide) ?_
  refine lv_iadd hx hb d_Sha_digest_96 ?_
  refine zz_i (v := 16) (by decide) ?_
  refine lv_aload_n hx hb d_Sha_digest_97 rfl (lv_at hl 6 rfl) ?_
  refine va_get (D := (dC, dI)) (ci := 2) (v := .ref h2) (C := R_Sha) (T := F_Sha) (N := 2) hx hb hT i_Sha hown hK hP 1 rfl rfl 1 (by decide) (hT _ k_20) (fun _ h9 => h9) rfl d_Sha_digest_98 ?_
  refine lv_iload hx hb d_Sha_digest_101 (lv_at hl 0 rfl) ?_
  refine va_iald hx hb hK hP 3 1 rfl rfl (by unfold vp_in; decide) d_Sha_digest_103 ?_
  refine lv_topi (fun x_61 _ => ?_)
  have hPc := hP.sub (ws' := [(h4, .inl (e4, 1024, .inl f_59))]) [4] rfl
  have hDc := hD.sub (ws' := [(h4, .inl (e4, 1024, .inl f_59))]) [4] (by decide) rfl
  have hKc := hK.sub (tys' := [(e4, .byte)]) [3] rfl
  have hFc := va_free (wc := [(h4, .inl (e4, 1024, .inl f_59))]) hD hS hA [4] rfl
  refine va_callv (va_runSN (As := [.ref h4, .int 16, .int x_61]) (rest := []) ⟨hx, hb, hml, hown, hT⟩ (c_CL_putNumber l dC dI z H.size h4 e4 1024 f_59 16 x_61 hf_60 (by omega) (by omega)) ⟨va_cnB (host := "ChainLedger") 3 hT g_CL_putNumber rfl rfl rfl (zn_k_123 (zz_N hZ)) (hT _ k_100) (by decide +kernel) ⟨Nat.le_of_ble_eq_true rfl, Nat.le_of_ble_eq_true rfl⟩, (hT _ k_101), trivial⟩ (zz_pre hPc hKc hDc hZ hS hFc) rfl rfl hl.1 rfl (lv_room (Nat.le_of_ble_eq_true rfl)) d_Sha_digest_104 ⟨Nat.le_of_ble_eq_true rfl, Nat.le_of_ble_eq_true rfl⟩) hS (fun q _ h => hFc q h) hFc (fun u9 t9 H1 locs ht9 hvm9 hw9 hB9 hz19 hk19 hS => ?_)
  obtain ⟨f_63, hf_64, hP1, hK1, hD1⟩ := hB9
  rw [ht9] at hP1
  obtain ⟨hP, hD⟩ := va_join (wr := [(h3, .inl (e3, 4096, .inl f3)), (h0, .inr (2, [.ref h1, .ref h2])), (h1, .inl (e1, 64, .inl f_43)), (h2, .inl (e2, 8, .inl f_44))]) (w1 := [(h4, .inl (e4, 1024, .inl f_63))]) hP hD [4] [0, 1, 2, 3] rfl rfl (by decide) (by decide) hk19 hFc hP1 hD1
  generalize H1 = H at hP hS ⊢
  have hP : va_P (dC, dI) cl_all [(h3, .inl (e3, 4096, .inl f3)), (h0, .inr (2, [.ref h1, .ref h2])), (h1, .inl (e1, 64, .inl f_43)), (h2, .inl (e2, 8, .inl f_44)), (h4, .inl (e4, 1024, .inl f_63))] H := hP
  have hD : va_D A [(h3, .inl (e3, 4096, .inl f3)), (h0, .inr (2, [.ref h1, .ref h2])), (h1, .inl (e1, 64, .inl f_43)), (h2, .inl (e2, 8, .inl f_44)), (h4, .inl (e4, 1024, .inl f_63))] := hD
  refine lv_iinc (v := 5) (lv' := [(12, .int 5), (11, .int 1), (10, .int 1), (9, .int 32), (8, .int 0), (7, .ref h4), (0, .ref h0), (1, .ref h3), (2, .int 77), (3, .int 17), (4, .int 2), (5, .ref h4), (6, .int 0)]) hx hb d_Sha_digest_107 hl (k := 0) rfl (by decide) (by decide) rfl (fun ls hl => ?_)
  refine lv_goto (tgt := 81) hx hb d_Sha_digest_110 (by decide) ?_
  refine lv_iload hx hb d_Sha_digest_81 (lv_at hl 0 rfl) ?_
  refine lv_bipush (v := 8) hx hb d_Sha_digest_83 (by decide) ?_
  refine lv_icmp_ge (tgt := 113) hx hb d_Sha_digest_85 (by decide) (fun h => absurd h (by decide)) (fun _ => ?_)
  refine lv_aload hx hb d_Sha_digest_88 (lv_at hl 11 rfl) ?_
  refine lv_iload hx hb d_Sha_digest_90 (lv_at hl 12 rfl) ?_
  refine lv_iload hx hb d_Sha_digest_92 (lv_at hl 0 rfl) ?_
  refine lv_iconst (v := 4) hx hb d_Sha_digest_94 (by decide) ?_
  refine lv_imul hx hb d_Sha_digest_95 ?_
  refine zz_i (v := 20) (by decide) ?_
  refine lv_iadd hx hb d_Sha_digest_96 ?_
  refine zz_i (v := 20) (by decide) ?_
  refine lv_aload_n hx hb d_Sha_digest_97 rfl (lv_at hl 6 rfl) ?_
  refine va_get (D := (dC, dI)) (ci := 2) (v := .ref h2) (C := R_Sha) (T := F_Sha) (N := 2) hx hb hT i_Sha hown hK hP 1 rfl rfl 1 (by decide) (hT _ k_20) (fun _ h9 => h9) rfl d_Sha_digest_98 ?_
  refine lv_iload hx hb d_Sha_digest_101 (lv_at hl 0 rfl) ?_
  refine va_iald hx hb hK hP 3 1 rfl rfl (by unfold vp_in; decide) d_Sha_digest_103 ?_
  refine lv_topi (fun x_65 _ => ?_)
  have hPc := hP.sub (ws' := [(h4, .inl (e4, 1024, .inl f_63))]) [4] rfl
  have hDc := hD.sub (ws' := [(h4, .inl (e4, 1024, .inl f_63))]) [4] (by decide) rfl
  have hKc := hK.sub (tys' := [(e4, .byte)]) [3] rfl
  have hFc := va_free (wc := [(h4, .inl (e4, 1024, .inl f_63))]) hD hS hA [4] rfl
  refine va_callv (va_runSN (As := [.ref h4, .int 20, .int x_65]) (rest := []) ⟨hx, hb, hml, hown, hT⟩ (c_CL_putNumber l dC dI z H.size h4 e4 1024 f_63 20 x_65 hf_64 (by omega) (by omega)) ⟨va_cnB (host := "ChainLedger") 3 hT g_CL_putNumber rfl rfl rfl (zn_k_123 (zz_N hZ)) (hT _ k_100) (by decide +kernel) ⟨Nat.le_of_ble_eq_true rfl, Nat.le_of_ble_eq_true rfl⟩, (hT _ k_101), trivial⟩ (zz_pre hPc hKc hDc hZ hS hFc) rfl rfl hl.1 rfl (lv_room (Nat.le_of_ble_eq_true rfl)) d_Sha_digest_104 ⟨Nat.le_of_ble_eq_true rfl, Nat.le_of_ble_eq_true rfl⟩) hS (fun q _ h => hFc q h) hFc (fun u9 t9 H1 locs ht9 hvm9 hw9 hB9 hz19 hk19 hS => ?_)
  obtain ⟨f_67, hf_68, hP1, hK1, hD1⟩ := hB9
  rw [ht9] at hP1
  obtain ⟨hP, hD⟩ := va_join (wr := [(h3, .inl (e3, 4096, .inl f3)), (h0, .inr (2, [.ref h1, .ref h2])), (h1, .inl (e1, 64, .inl f_43)), (h2, .inl (e2, 8, .inl f_44))]) (w1 := [(h4, .inl (e4, 1024, .inl f_67))]) hP hD [4] [0, 1, 2, 3] rfl rfl (by decide) (by decide) hk19 hFc hP1 hD1
  generalize H1 = H at hP hS ⊢
  have hP : va_P (dC, dI) cl_all [(h3, .inl (e3, 4096, .inl f3)), (h0, .inr (2, [.ref h1, .ref h2])), (h1, .inl (e1, 64, .inl f_43)), (h2, .inl (e2, 8, .inl f_44)), (h4, .inl (e4, 1024, .inl f_67))] H := hP
  have hD : va_D A [(h3, .inl (e3, 4096, .inl f3)), (h0, .inr (2, [.ref h1, .ref h2])), (h1, .inl (e1, 64, .inl f_43)), (h2, .inl (e2, 8, .inl f_44)), (h4, .inl (e4, 1024, .inl f_67))] := hD
  refine lv_iinc (v := 6) (lv' := [(12, .int 6), (11, .int 1), (10, .int 1), (9, .int 32), (8, .int 0), (7, .ref h4), (0, .ref h0), (1, .ref h3), (2, .int 77), (3, .int 17), (4, .int 2), (5, .ref h4), (6, .int 0)]) hx hb d_Sha_digest_107 hl (k := 0) rfl (by decide) (by decide) rfl (fun ls hl => ?_)
  refine lv_goto (tgt := 81) hx hb d_Sha_digest_110 (by decide) ?_
  refine lv_iload hx hb d_Sha_digest_81 (lv_at hl 0 rfl) ?_
  refine lv_bipush (v := 8) hx hb d_Sha_digest_83 (by decide) ?_
  refine lv_icmp_ge (tgt := 113) hx hb d_Sha_digest_85 (by decide) (fun h => absurd h (by decide)) (fun _ => ?_)
  refine lv_aload hx hb d_Sha_digest_88 (lv_at hl 11 rfl) ?_
  refine lv_iload hx hb d_Sha_digest_90 (lv_at hl 12 rfl) ?_
  refine lv_iload hx hb d_Sha_digest_92 (lv_at hl 0 rfl) ?_
  refine lv_iconst (v := 4) hx hb d_Sha_digest_94 (by decide) ?_
  refine lv_imul hx hb d_Sha_digest_95 ?_
  refine zz_i (v := 24) (by decide) ?_
  refine lv_iadd hx hb d_Sha_digest_96 ?_
  refine zz_i (v := 24) (by decide) ?_
  refine lv_aload_n hx hb d_Sha_digest_97 rfl (lv_at hl 6 rfl) ?_
  refine va_get (D := (dC, dI)) (ci := 2) (v := .ref h2) (C := R_Sha) (T := F_Sha) (N := 2) hx hb hT i_Sha hown hK hP 1 rfl rfl 1 (by decide) (hT _ k_20) (fun _ h9 => h9) rfl d_Sha_digest_98 ?_
  refine lv_iload hx hb d_Sha_digest_101 (lv_at hl 0 rfl) ?_
  refine va_iald hx hb hK hP 3 1 rfl rfl (by unfold vp_in; decide) d_Sha_digest_103 ?_
  refine lv_topi (fun x_69 _ => ?_)
  have hPc := hP.sub (ws' := [(h4, .inl (e4, 1024, .inl f_67))]) [4] rfl
  have hDc := hD.sub (ws' := [(h4, .inl (e4, 1024, .inl f_67))]) [4] (by decide) rfl
  have hKc := hK.sub (tys' := [(e4, .byte)]) [3] rfl
  have hFc := va_free (wc := [(h4, .inl (e4, 1024, .inl f_67))]) hD hS hA [4] rfl
  refine va_callv (va_runSN (As := [.ref h4, .int 24, .int x_69]) (rest := []) ⟨hx, hb, hml, hown, hT⟩ (c_CL_putNumber l dC dI z H.size h4 e4 1024 f_67 24 x_69 hf_68 (by omega) (by omega)) ⟨va_cnB (host := "ChainLedger") 3 hT g_CL_putNumber rfl rfl rfl (zn_k_123 (zz_N hZ)) (hT _ k_100) (by decide +kernel) ⟨Nat.le_of_ble_eq_true rfl, Nat.le_of_ble_eq_true rfl⟩, (hT _ k_101), trivial⟩ (zz_pre hPc hKc hDc hZ hS hFc) rfl rfl hl.1 rfl (lv_room (Nat.le_of_ble_eq_true rfl)) d_Sha_digest_104 ⟨Nat.le_of_ble_eq_true rfl, Nat.le_of_ble_eq_true rfl⟩) hS (fun q _ h => hFc q h) hFc (fun u9 t9 H1 locs ht9 hvm9 hw9 hB9 hz19 hk19 hS => ?_)
  obtain ⟨f_71, hf_72, hP1, hK1, hD1⟩ := hB9
  rw [ht9] at hP1
  obtain ⟨hP, hD⟩ := va_join (wr := [(h3, .inl (e3, 4096, .inl f3)), (h0, .inr (2, [.ref h1, .ref h2])), (h1, .inl (e1, 64, .inl f_43)), (h2, .inl (e2, 8, .inl f_44))]) (w1 := [(h4, .inl (e4, 1024, .inl f_71))]) hP hD [4] [0, 1, 2, 3] rfl rfl (by decide) (by decide) hk19 hFc hP1 hD1
  generalize H1 = H at hP hS ⊢
  have hP : va_P (dC, dI) cl_all [(h3, .inl (e3, 4096, .inl f3)), (h0, .inr (2, [.ref h1, .ref h2])), (h1, .inl (e1, 64, .inl f_43)), (h2, .inl (e2, 8, .inl f_44)), (h4, .inl (e4, 1024, .inl f_71))] H := hP
  have hD : va_D A [(h3, .inl (e3, 4096, .inl f3)), (h0, .inr (2, [.ref h1, .ref h2])), (h1, .inl (e1, 64, .inl f_43)), (h2, .inl (e2, 8, .inl f_44)), (h4, .inl (e4, 1024, .inl f_71))] := hD
  refine lv_iinc (v := 7) (lv' := [(12, .int 7), (11, .int 1), (10, .int 1), (9, .int 32), (8, .int 0), (7, .ref h4), (0, .ref h0), (1, .ref h3), (2, .int 77), (3, .int 17), (4, .int 2), (5, .ref h4), (6, .int 0)]) hx hb d_Sha_digest_107 hl (k := 0) rfl (by decide) (by decide) rfl (fun ls hl => ?_)
  refine lv_goto (tgt := 81) hx hb d_Sha_digest_110 (by decide) ?_
  refine lv_iload hx hb d_Sha_digest_81 (lv_at hl 0 rfl) ?_
  refine lv_bipush (v := 8) hx hb d_Sha_digest_83 (by decide) ?_
  refine lv_icmp_ge (tgt := 113) hx hb d_Sha_digest_85 (by decide) (fun h => absurd h (by decide)) (fun _ => ?_)
  refine lv_aload hx hb d_Sha_digest_88 (lv_at hl 11 rfl) ?_
  refine lv_iload hx hb d_Sha_digest_90 (lv_at hl 12 rfl) ?_
  refine lv_iload hx hb d_Sha_digest_92 (lv_at hl 0 rfl) ?_
  refine lv_iconst (v := 4) hx hb d_Sha_digest_94 (by decide) ?_
  refine lv_imul hx hb d_Sha_digest_95 ?_
  refine zz_i (v := 28) (by decide) ?_
  refine lv_iadd hx hb d_Sha_digest_96 ?_
  refine zz_i (v := 28) (by decide) ?_
  refine lv_aload_n hx hb d_Sha_digest_97 rfl (lv_at hl 6 rfl) ?_
  refine va_get (D := (dC, dI)) (ci := 2) (v := .ref h2) (C := R_Sha) (T := F_Sha) (N := 2) hx hb hT i_Sha hown hK hP 1 rfl rfl 1 (by decide) (hT _ k_20) (fun _ h9 => h9) rfl d_Sha_digest_98 ?_
  refine lv_iload hx hb d_Sha_digest_101 (lv_at hl 0 rfl) ?_
  refine va_iald hx hb hK hP 3 1 rfl rfl (by unfold vp_in; decide) d_Sha_digest_103 ?_
  refine lv_topi (fun x_73 _ => ?_)
  have hPc := hP.sub (ws' := [(h4, .inl (e4, 1024, .inl f_71))]) [4] rfl
  have hDc := hD.sub (ws' := [(h4, .inl (e4, 1024, .inl f_71))]) [4] (by decide) rfl
  have hKc := hK.sub (tys' := [(e4, .byte)]) [3] rfl
  have hFc := va_free (wc := [(h4, .inl (e4, 1024, .inl f_71))]) hD hS hA [4] rfl
  refine va_callv (va_runSN (As := [.ref h4, .int 28, .int x_73]) (rest := []) ⟨hx, hb, hml, hown, hT⟩ (c_CL_putNumber l dC dI z H.size h4 e4 1024 f_71 28 x_73 hf_72 (by omega) (by omega)) ⟨va_cnB (host := "ChainLedger") 3 hT g_CL_putNumber rfl rfl rfl (zn_k_123 (zz_N hZ)) (hT _ k_100) (by decide +kernel) ⟨Nat.le_of_ble_eq_true rfl, Nat.le_of_ble_eq_true rfl⟩, (hT _ k_101), trivial⟩ (zz_pre hPc hKc hDc hZ hS hFc) rfl rfl hl.1 rfl (lv_room (Nat.le_of_ble_eq_true rfl)) d_Sha_digest_104 ⟨Nat.le_of_ble_eq_true rfl, Nat.le_of_ble_eq_true rfl⟩) hS (fun q _ h => hFc q h) hFc (fun u9 t9 H1 locs ht9 hvm9 hw9 hB9 hz19 hk19 hS => ?_)
  obtain ⟨f_75, hf_76, hP1, hK1, hD1⟩ := hB9
  rw [ht9] at hP1
  obtain ⟨hP, hD⟩ := va_join (wr := [(h3, .inl (e3, 4096, .inl f3)), (h0, .inr (2, [.ref h1, .ref h2])), (h1, .inl (e1, 64, .inl f_43)), (h2, .inl (e2, 8, .inl f_44))]) (w1 := [(h4, .inl (e4, 1024, .inl f_75))]) hP hD [4] [0, 1, 2, 3] rfl rfl (by decide) (by decide) hk19 hFc hP1 hD1
  generalize H1 = H at hP hS ⊢
  have hP : va_P (dC, dI) cl_all [(h3, .inl (e3, 4096, .inl f3)), (h0, .inr (2, [.ref h1, .ref h2])), (h1, .inl (e1, 64, .inl f_43)), (h2, .inl (e2, 8, .inl f_44)), (h4, .inl (e4, 1024, .inl f_75))] H := hP
  have hD : va_D A [(h3, .inl (e3, 4096, .inl f3)), (h0, .inr (2, [.ref h1, .ref h2])), (h1, .inl (e1, 64, .inl f_43)), (h2, .inl (e2, 8, .inl f_44)), (h4, .inl (e4, 1024, .inl f_75))] := hD
  refine lv_iinc (v := 8) (lv' := [(12, .int 8), (11, .int 1), (10, .int 1), (9, .int 32), (8, .int 0), (7, .ref h4), (0, .ref h0), (1, .ref h3), (2, .int 77), (3, .int 17), (4, .int 2), (5, .ref h4), (6, .int 0)]) hx hb d_Sha_digest_107 hl (k := 0) rfl (by decide) (by decide) rfl (fun ls hl => ?_)
  refine lv_goto (tgt := 81) hx hb d_Sha_digest_110 (by decide) ?_
  refine lv_iload hx hb d_Sha_digest_81 (lv_at hl 0 rfl) ?_
  refine lv_bipush (v := 8) hx hb d_Sha_digest_83 (by decide) ?_
  refine lv_icmp_ge (tgt := 113) hx hb d_Sha_digest_85 (by decide) (fun _ => ?_) (fun h => absurd (by decide) h)
  refine lv_aload hx hb d_Sha_digest_113 (lv_at hl 11 rfl) ?_
  refine lv_astore (lv' := [(7, .ref h4), (12, .int 8), (11, .int 1), (10, .int 1), (9, .int 32), (8, .int 0), (0, .ref h0), (1, .ref h3), (2, .int 77), (3, .int 17), (4, .int 2), (5, .ref h4), (6, .int 0)]) hx hb d_Sha_digest_115 hl (by decide) rfl (fun ls hl => ?_)
  refine lv_iload hx hb d_Sha_digest_117 (lv_at hl 12 rfl) ?_
  refine lv_istore (lv' := [(8, .int 0), (7, .ref h4), (12, .int 8), (11, .int 1), (10, .int 1), (9, .int 32), (0, .ref h0), (1, .ref h3), (2, .int 77), (3, .int 17), (4, .int 2), (5, .ref h4), (6, .int 0)]) hx hb d_Sha_digest_119 hl (by decide) rfl (fun ls hl => ?_)
  refine lv_bipush (v := 32) hx hb d_Sha_digest_121 (by decide) ?_
  refine lv_istore (lv' := [(9, .int 32), (8, .int 0), (7, .ref h4), (12, .int 8), (11, .int 1), (10, .int 1), (0, .ref h0), (1, .ref h3), (2, .int 77), (3, .int 17), (4, .int 2), (5, .ref h4), (6, .int 0)]) hx hb d_Sha_digest_123 hl (by decide) rfl (fun ls hl => ?_)
  refine lv_iinc (v := 2) (lv' := [(10, .int 2), (9, .int 32), (8, .int 0), (7, .ref h4), (12, .int 8), (11, .int 1), (0, .ref h0), (1, .ref h3), (2, .int 77), (3, .int 17), (4, .int 2), (5, .ref h4), (6, .int 0)]) hx hb d_Sha_digest_125 hl (k := 5) rfl (by decide) (by decide) rfl (fun ls hl => ?_)
  refine lv_goto (tgt := 12) hx hb d_Sha_digest_128 (by decide) ?_
  refine lv_iload hx hb d_Sha_digest_12 (lv_at hl 0 rfl) ?_
  refine lv_iload hx hb d_Sha_digest_14 (lv_at hl 10 rfl) ?_
  refine lv_icmp_ge (tgt := 131) hx hb d_Sha_digest_16 (by decide) (fun _ => ?_) (fun h => absurd (by decide) h)
  have hP9 := hP.sub (ws' := [(h0, .inr (2, [.ref h1, .ref h2])), (h1, .inl (e1, 64, .inl f_43)), (h2, .inl (e2, 8, .inl f_44)), (h3, .inl (e3, 4096, .inl f3)), (h4, .inl (e4, 1024, .inl f_75))]) [1, 2, 3, 0, 4] rfl
  have hD9 := hD.sub (ws' := [(h0, .inr (2, [.ref h1, .ref h2])), (h1, .inl (e1, 64, .inl f_43)), (h2, .inl (e2, 8, .inl f_44)), (h3, .inl (e3, 4096, .inl f3)), (h4, .inl (e4, 1024, .inl f_75))]) [1, 2, 3, 0, 4] (by decide) rfl
  have hK9 := hK.sub (tys' := []) [] rfl
  exact W.vret hx hb hr (fun t9 ht9 hW9 => ⟨⟨(), rfl, trivial, ⟨f_43, f_44, f_75, hf_76, by rw [ht9]; exact hP9, va_K.moved hW9.alike hK9, hD9⟩⟩, hS.F ht9⟩) hS.2.2 d_Sha_digest_131
set_option maxHeartbeats 4000000 in
set_option maxRecDepth 100000 in
/-- foldToRoot of one id: nothing -/
theorem c_Sha_foldToRoot (l : Launch) (dC : Nat → ClassId) (dI : Nat → Nat → Nat) (z : zT) (sz : Nat) (h0 h1 : Nat)  : Met l y_Sha_foldToRoot w_Sha_foldToRoot ({ frames := 0, cells := 0, slots := 0, locals := 0 }) (va_Pc [.ref h0, .ref h1, .int 1] (fun U => U.heap.size = sz ∧ va_P (dC, dI) cl_all [] U.heap ∧ va_K (dC, dI) cl_all [] U ∧ va_D (fun _ => True) [] ∧ zz z (va_A [] sz) U U.heap)) (va_Qv (fun _ : Unit => True) (fun _ t => True) (va_A [] sz)) 0 0 (va_A [] sz) := by
  refine Met.ofW (cc := b_Sha_foldToRoot) (maxL := 5) (ret := none) (by decide) rfl ?_
  intro p e s m args below meth c s₁ B hml hv
  obtain ⟨rfl, hsz, hP, hK, hD0, hZ⟩ := hv
  have hx := B.exec
  have hb := B.bytes
  have hr := B.returns
  have hT : ∀ w ∈ lw_all, w.before _ s = true := fun w h => atoms_spec (ws := w_Sha_foldToRoot) B.pre w (List.mem_cons_of_mem _ h)
  have hown : s.vm.findClass R_Sha = some m.cls := findClass_of_methodNamed B.named
  have hlocks := B.notSynchronized
  subst hsz
  have hD := hD0.self (sz := s.heap.size)
  generalize hAe : va_A [] s.heap.size = A at hD hZ ⊢
  have hA : ∀ q : Nat, s.heap.size ≤ q → A q := fun q h => by rw [← hAe]; exact Or.inr h
  have hS : va_S A s.heap s.heap [] := va_S.rf
  have hl := lv_entry ([.ref h0, .ref h1, .int 1]) (n := 5) (Nat.le_of_ble_eq_true rfl)
  rw [lg_entry_eq]
  generalize (lg_sl ([.ref h0, .ref h1, .int 1]) ++ List.replicate (5 - (lg_sl ([.ref h0, .ref h1, .int 1])).length) Slot.unset).toArray = ls at hl ⊢
  have hl : lv_has ls 5 [(0, .ref h0), (1, .ref h1), (2, .int 1)] := hl
  refine lv_iload_n hx hb d_Sha_foldToRoot_0 rfl (lv_at hl 2 rfl) ?_
  refine lv_istore_n (lv' := [(3, .int 1), (0, .ref h0), (1, .ref h1), (2, .int 1)]) hx hb d_Sha_foldToRoot_1 rfl hl (by decide) rfl (fun ls hl => ?_)
  refine lv_iload_n hx hb d_Sha_foldToRoot_2 rfl (lv_at hl 0 rfl) ?_
  refine lv_iconst (v := 1) hx hb d_Sha_foldToRoot_3 (by decide) ?_
  refine lv_icmp_le (tgt := 75) hx hb d_Sha_foldToRoot_4 (by decide) (fun _ => ?_) (fun h => absurd (by decide) h)
  exact W.vret hx hb hr (fun t9 ht9 hW9 => ⟨⟨(), rfl, trivial, trivial⟩, hS.F ht9⟩) hS.2.2 d_Sha_foldToRoot_75
