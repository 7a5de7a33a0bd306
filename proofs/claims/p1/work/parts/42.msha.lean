set_option maxHeartbeats 4000000 in
set_option maxRecDepth 100000 in
theorem c_Mo_setNumber (l : Launch) (dC : Nat → ClassId) (dI : Nat → Nat → Nat) (z : zT) (sz : Nat) (m0 m_mem m_at m_length m_parent m_height m_time m_target m_work m_arrival m_sound m_firstTx m_txs m_blockId m_heldLength m_heldArrival m_heldId m_ids m_poolLength m_poolFee m_inId m_inIndex m_keyAt m_keyLength m_outValue m_lockAt m_lockLength m_w m_h m_once m_digest m_signHash m_buffer m_merkle m_stack m_sizes m_branch m_tipCoins m_poolCoins m_workCoins m_path m_order m_spent : Nat) (e1 : ClassId) (f : Nat → Int32) (k : Nat) (x1 : Int32) (hf_f : sb_Fit f) (hk : k + 4 ≤ 281088) : Met l y_Mo_setNumber w_Mo_setNumber ({ frames := 0, cells := 0, slots := 0, locals := 0 }) (va_Pc [.ref m0, .int (nI k), .int x1] (fun U => U.heap.size = sz ∧ va_P (dC, dI) cl_all [(m0, .inr (11, (.ref m_mem :: .int 0 :: .int 0 :: .int 0 :: .ref m_at :: .ref m_length :: .ref m_parent :: .ref m_height :: .ref m_time :: .ref m_target :: .ref m_work :: .ref m_arrival :: .ref m_sound :: .ref m_firstTx :: .ref m_txs :: .ref m_blockId :: .int 1 :: .int 0 :: .int 0 :: .int 0 :: .int 0 :: .ref m_heldLength :: .ref m_heldArrival :: .ref m_heldId :: .int 0 :: .ref m_ids :: .ref m_poolLength :: .ref m_poolFee :: .int 0 :: .int 0 :: .int 0 :: .ref m_inId :: .ref m_inIndex :: .ref m_keyAt :: .ref m_keyLength :: .int 0 :: .ref m_outValue :: .ref m_lockAt :: .ref m_lockLength :: .ref m_w :: .ref m_h :: .ref m_once :: .ref m_digest :: .ref m_signHash :: .ref m_buffer :: .ref m_merkle :: .ref m_stack :: .ref m_sizes :: .int 0 :: .ref m_branch :: .ref m_tipCoins :: .ref m_poolCoins :: .ref m_workCoins :: .ref m_path :: .ref m_order :: .ref m_spent :: []))), (m_mem, .inl (e1, 281088, .inl f))] U.heap ∧ va_K (dC, dI) cl_all [(e1, .byte)] U ∧ va_D (fun _ => True) [(m0, .inr (11, (.ref m_mem :: .int 0 :: .int 0 :: .int 0 :: .ref m_at :: .ref m_length :: .ref m_parent :: .ref m_height :: .ref m_time :: .ref m_target :: .ref m_work :: .ref m_arrival :: .ref m_sound :: .ref m_firstTx :: .ref m_txs :: .ref m_blockId :: .int 1 :: .int 0 :: .int 0 :: .int 0 :: .int 0 :: .ref m_heldLength :: .ref m_heldArrival :: .ref m_heldId :: .int 0 :: .ref m_ids :: .ref m_poolLength :: .ref m_poolFee :: .int 0 :: .int 0 :: .int 0 :: .ref m_inId :: .ref m_inIndex :: .ref m_keyAt :: .ref m_keyLength :: .int 0 :: .ref m_outValue :: .ref m_lockAt :: .ref m_lockLength :: .ref m_w :: .ref m_h :: .ref m_once :: .ref m_digest :: .ref m_signHash :: .ref m_buffer :: .ref m_merkle :: .ref m_stack :: .ref m_sizes :: .int 0 :: .ref m_branch :: .ref m_tipCoins :: .ref m_poolCoins :: .ref m_workCoins :: .ref m_path :: .ref m_order :: .ref m_spent :: []))), (m_mem, .inl (e1, 281088, .inl f))] ∧ zz z (va_A [(m0, .inr (11, (.ref m_mem :: .int 0 :: .int 0 :: .int 0 :: .ref m_at :: .ref m_length :: .ref m_parent :: .ref m_height :: .ref m_time :: .ref m_target :: .ref m_work :: .ref m_arrival :: .ref m_sound :: .ref m_firstTx :: .ref m_txs :: .ref m_blockId :: .int 1 :: .int 0 :: .int 0 :: .int 0 :: .int 0 :: .ref m_heldLength :: .ref m_heldArrival :: .ref m_heldId :: .int 0 :: .ref m_ids :: .ref m_poolLength :: .ref m_poolFee :: .int 0 :: .int 0 :: .int 0 :: .ref m_inId :: .ref m_inIndex :: .ref m_keyAt :: .ref m_keyLength :: .int 0 :: .ref m_outValue :: .ref m_lockAt :: .ref m_lockLength :: .ref m_w :: .ref m_h :: .ref m_once :: .ref m_digest :: .ref m_signHash :: .ref m_buffer :: .ref m_merkle :: .ref m_stack :: .ref m_sizes :: .int 0 :: .ref m_branch :: .ref m_tipCoins :: .ref m_poolCoins :: .ref m_workCoins :: .ref m_path :: .ref m_order :: .ref m_spent :: []))), (m_mem, .inl (e1, 281088, .inl f))] sz) U U.heap)) (va_Qv (fun _ : Unit => True) (fun _ t => ∃ (g : Nat → Int32), sb_Fit g ∧ va_P (dC, dI) cl_all [(m0, .inr (11, (.ref m_mem :: .int 0 :: .int 0 :: .int 0 :: .ref m_at :: .ref m_length :: .ref m_parent :: .ref m_height :: .ref m_time :: .ref m_target :: .ref m_work :: .ref m_arrival :: .ref m_sound :: .ref m_firstTx :: .ref m_txs :: .ref m_blockId :: .int 1 :: .int 0 :: .int 0 :: .int 0 :: .int 0 :: .ref m_heldLength :: .ref m_heldArrival :: .ref m_heldId :: .int 0 :: .ref m_ids :: .ref m_poolLength :: .ref m_poolFee :: .int 0 :: .int 0 :: .int 0 :: .ref m_inId :: .ref m_inIndex :: .ref m_keyAt :: .ref m_keyLength :: .int 0 :: .ref m_outValue :: .ref m_lockAt :: .ref m_lockLength :: .ref m_w :: .ref m_h :: .ref m_once :: .ref m_digest :: .ref m_signHash :: .ref m_buffer :: .ref m_merkle :: .ref m_stack :: .ref m_sizes :: .int 0 :: .ref m_branch :: .ref m_tipCoins :: .ref m_poolCoins :: .ref m_workCoins :: .ref m_path :: .ref m_order :: .ref m_spent :: []))), (m_mem, .inl (e1, 281088, .inl g))] t.heap ∧ va_K (dC, dI) cl_all [] t ∧ va_D (va_A [(m0, .inr (11, (.ref m_mem :: .int 0 :: .int 0 :: .int 0 :: .ref m_at :: .ref m_length :: .ref m_parent :: .ref m_height :: .ref m_time :: .ref m_target :: .ref m_work :: .ref m_arrival :: .ref m_sound :: .ref m_firstTx :: .ref m_txs :: .ref m_blockId :: .int 1 :: .int 0 :: .int 0 :: .int 0 :: .int 0 :: .ref m_heldLength :: .ref m_heldArrival :: .ref m_heldId :: .int 0 :: .ref m_ids :: .ref m_poolLength :: .ref m_poolFee :: .int 0 :: .int 0 :: .int 0 :: .ref m_inId :: .ref m_inIndex :: .ref m_keyAt :: .ref m_keyLength :: .int 0 :: .ref m_outValue :: .ref m_lockAt :: .ref m_lockLength :: .ref m_w :: .ref m_h :: .ref m_once :: .ref m_digest :: .ref m_signHash :: .ref m_buffer :: .ref m_merkle :: .ref m_stack :: .ref m_sizes :: .int 0 :: .ref m_branch :: .ref m_tipCoins :: .ref m_poolCoins :: .ref m_workCoins :: .ref m_path :: .ref m_order :: .ref m_spent :: []))), (m_mem, .inl (e1, 281088, .inl f))] sz) [(m0, .inr (11, (.ref m_mem :: .int 0 :: .int 0 :: .int 0 :: .ref m_at :: .ref m_length :: .ref m_parent :: .ref m_height :: .ref m_time :: .ref m_target :: .ref m_work :: .ref m_arrival :: .ref m_sound :: .ref m_firstTx :: .ref m_txs :: .ref m_blockId :: .int 1 :: .int 0 :: .int 0 :: .int 0 :: .int 0 :: .ref m_heldLength :: .ref m_heldArrival :: .ref m_heldId :: .int 0 :: .ref m_ids :: .ref m_poolLength :: .ref m_poolFee :: .int 0 :: .int 0 :: .int 0 :: .ref m_inId :: .ref m_inIndex :: .ref m_keyAt :: .ref m_keyLength :: .int 0 :: .ref m_outValue :: .ref m_lockAt :: .ref m_lockLength :: .ref m_w :: .ref m_h :: .ref m_once :: .ref m_digest :: .ref m_signHash :: .ref m_buffer :: .ref m_merkle :: .ref m_stack :: .ref m_sizes :: .int 0 :: .ref m_branch :: .ref m_tipCoins :: .ref m_poolCoins :: .ref m_workCoins :: .ref m_path :: .ref m_order :: .ref m_spent :: []))), (m_mem, .inl (e1, 281088, .inl g))]) (va_A [(m0, .inr (11, (.ref m_mem :: .int 0 :: .int 0 :: .int 0 :: .ref m_at :: .ref m_length :: .ref m_parent :: .ref m_height :: .ref m_time :: .ref m_target :: .ref m_work :: .ref m_arrival :: .ref m_sound :: .ref m_firstTx :: .ref m_txs :: .ref m_blockId :: .int 1 :: .int 0 :: .int 0 :: .int 0 :: .int 0 :: .ref m_heldLength :: .ref m_heldArrival :: .ref m_heldId :: .int 0 :: .ref m_ids :: .ref m_poolLength :: .ref m_poolFee :: .int 0 :: .int 0 :: .int 0 :: .ref m_inId :: .ref m_inIndex :: .ref m_keyAt :: .ref m_keyLength :: .int 0 :: .ref m_outValue :: .ref m_lockAt :: .ref m_lockLength :: .ref m_w :: .ref m_h :: .ref m_once :: .ref m_digest :: .ref m_signHash :: .ref m_buffer :: .ref m_merkle :: .ref m_stack :: .ref m_sizes :: .int 0 :: .ref m_branch :: .ref m_tipCoins :: .ref m_poolCoins :: .ref m_workCoins :: .ref m_path :: .ref m_order :: .ref m_spent :: []))), (m_mem, .inl (e1, 281088, .inl f))] sz)) 0 0 (va_A [(m0, .inr (11, (.ref m_mem :: .int 0 :: .int 0 :: .int 0 :: .ref m_at :: .ref m_length :: .ref m_parent :: .ref m_height :: .ref m_time :: .ref m_target :: .ref m_work :: .ref m_arrival :: .ref m_sound :: .ref m_firstTx :: .ref m_txs :: .ref m_blockId :: .int 1 :: .int 0 :: .int 0 :: .int 0 :: .int 0 :: .ref m_heldLength :: .ref m_heldArrival :: .ref m_heldId :: .int 0 :: .ref m_ids :: .ref m_poolLength :: .ref m_poolFee :: .int 0 :: .int 0 :: .int 0 :: .ref m_inId :: .ref m_inIndex :: .ref m_keyAt :: .ref m_keyLength :: .int 0 :: .ref m_outValue :: .ref m_lockAt :: .ref m_lockLength :: .ref m_w :: .ref m_h :: .ref m_once :: .ref m_digest :: .ref m_signHash :: .ref m_buffer :: .ref m_merkle :: .ref m_stack :: .ref m_sizes :: .int 0 :: .ref m_branch :: .ref m_tipCoins :: .ref m_poolCoins :: .ref m_workCoins :: .ref m_path :: .ref m_order :: .ref m_spent :: []))), (m_mem, .inl (e1, 281088, .inl f))] sz) := by
  refine Met.ofW (cc := b_Mo_setNumber) (maxL := 4) (ret := none) (by decide) rfl ?_
  intro p e s m args below meth c s₁ B hml hv
  obtain ⟨rfl, hsz, hP, hK, hD0, hZ⟩ := hv
  have hx := B.exec
  have hb := B.bytes
  have hr := B.returns
  have hT : ∀ w ∈ lw_all, w.before _ s = true := fun w h => atoms_spec (ws := w_Mo_setNumber) B.pre w (List.mem_cons_of_mem _ h)
  have hown : s.vm.findClass R_Mo = some m.cls := findClass_of_methodNamed B.named
  have hlocks := B.notSynchronized
  subst hsz
  have hD := hD0.self (sz := s.heap.size)
  generalize hAe : va_A [(m0, .inr (11, (.ref m_mem :: .int 0 :: .int 0 :: .int 0 :: .ref m_at :: .ref m_length :: .ref m_parent :: .ref m_height :: .ref m_time :: .ref m_target :: .ref m_work :: .ref m_arrival :: .ref m_sound :: .ref m_firstTx :: .ref m_txs :: .ref m_blockId :: .int 1 :: .int 0 :: .int 0 :: .int 0 :: .int 0 :: .ref m_heldLength :: .ref m_heldArrival :: .ref m_heldId :: .int 0 :: .ref m_ids :: .ref m_poolLength :: .ref m_poolFee :: .int 0 :: .int 0 :: .int 0 :: .ref m_inId :: .ref m_inIndex :: .ref m_keyAt :: .ref m_keyLength :: .int 0 :: .ref m_outValue :: .ref m_lockAt :: .ref m_lockLength :: .ref m_w :: .ref m_h :: .ref m_once :: .ref m_digest :: .ref m_signHash :: .ref m_buffer :: .ref m_merkle :: .ref m_stack :: .ref m_sizes :: .int 0 :: .ref m_branch :: .ref m_tipCoins :: .ref m_poolCoins :: .ref m_workCoins :: .ref m_path :: .ref m_order :: .ref m_spent :: []))), (m_mem, .inl (e1, 281088, .inl f))] s.heap.size = A at hD hZ ⊢
  have hA : ∀ q : Nat, s.heap.size ≤ q → A q := fun q h => by rw [← hAe]; exact Or.inr h
  have hS : va_S A s.heap s.heap [] := va_S.rf
  have hl := lv_entry ([.ref m0, .int (nI k), .int x1]) (n := 4) (Nat.le_of_ble_eq_true rfl)
  rw [lg_entry_eq]
  generalize (lg_sl ([.ref m0, .int (nI k), .int x1]) ++ List.replicate (4 - (lg_sl ([.ref m0, .int (nI k), .int x1])).length) Slot.unset).toArray = ls at hl ⊢
  have hl : lv_has ls 4 [(0, .ref m0), (1, .int (nI k)), (2, .int x1)] := hl
  refine lv_iconst (v := 0) hx hb d_Mo_setNumber_0 (by decide) ?_
  refine lv_istore_n (lv' := [(3, .int 0), (0, .ref m0), (1, .int (nI k)), (2, .int x1)]) hx hb d_Mo_setNumber_1 rfl hl (by decide) rfl (fun ls hl => ?_)
  refine lv_iload_n hx hb d_Mo_setNumber_2 rfl (lv_at hl 0 rfl) ?_
  refine lv_iconst (v := 4) hx hb d_Mo_setNumber_3 (by decide) ?_
  refine lv_icmp_ge (tgt := 31) hx hb d_Mo_setNumber_4 (by decide) (fun h => absurd h (by decide)) (fun _ => ?_)
  refine lv_aload_n hx hb d_Mo_setNumber_7 rfl (lv_at hl 1 rfl) ?_
  refine va_get (D := (dC, dI)) (ci := 11) (v := .ref m_mem) (C := R_Mo) (T := F_Mo) (N := 56) hx hb hT i_Mo hown hK hP 0 rfl rfl 0 (by decide) (hT _ k_289) (fun _ h9 => h9) rfl d_Mo_setNumber_8 ?_
  refine lv_iload_n hx hb d_Mo_setNumber_11 rfl (lv_at hl 2 rfl) ?_
  refine lv_iload_n hx hb d_Mo_setNumber_12 rfl (lv_at hl 0 rfl) ?_
  refine lv_iadd hx hb d_Mo_setNumber_13 ?_
  refine zz_i (v := nI ((k) + 0)) (nI_add (k) 0) ?_
  refine lv_iload_n hx hb d_Mo_setNumber_14 rfl (lv_at hl 3 rfl) ?_
  refine lv_bipush (v := 24) hx hb d_Mo_setNumber_15 (by decide) ?_
  refine lv_bipush (v := 8) hx hb d_Mo_setNumber_17 (by decide) ?_
  refine lv_iload_n hx hb d_Mo_setNumber_19 rfl (lv_at hl 0 rfl) ?_
  refine lv_imul hx hb d_Mo_setNumber_20 ?_
  refine zz_i (v := 0) (by decide) ?_
  refine lv_isub hx hb d_Mo_setNumber_21 ?_
  refine zz_i (v := 24) (by decide) ?_
  refine lv_ishr hx hb d_Mo_setNumber_22 ?_
  refine lv_topi (fun x_1 _ => ?_)
  refine lv_i2b hx hb d_Mo_setNumber_23 rfl ?_
  refine lv_topi (fun x_2 _ => ?_)
  refine zz_bast hx hb hK hP hD hS 1 0 rfl rfl (vp_in_nI (by omega) (by omega)) hf_f d_Mo_setNumber_24 (fun f_3 hf_4 H locs hP hD hS => ?_)
  have hP : va_P (dC, dI) cl_all [(m0, .inr (11, (.ref m_mem :: .int 0 :: .int 0 :: .int 0 :: .ref m_at :: .ref m_length :: .ref m_parent :: .ref m_height :: .ref m_time :: .ref m_target :: .ref m_work :: .ref m_arrival :: .ref m_sound :: .ref m_firstTx :: .ref m_txs :: .ref m_blockId :: .int 1 :: .int 0 :: .int 0 :: .int 0 :: .int 0 :: .ref m_heldLength :: .ref m_heldArrival :: .ref m_heldId :: .int 0 :: .ref m_ids :: .ref m_poolLength :: .ref m_poolFee :: .int 0 :: .int 0 :: .int 0 :: .ref m_inId :: .ref m_inIndex :: .ref m_keyAt :: .ref m_keyLength :: .int 0 :: .ref m_outValue :: .ref m_lockAt :: .ref m_lockLength :: .ref m_w :: .ref m_h :: .ref m_once :: .ref m_digest :: .ref m_signHash :: .ref m_buffer :: .ref m_merkle :: .ref m_stack :: .ref m_sizes :: .int 0 :: .ref m_branch :: .ref m_tipCoins :: .ref m_poolCoins :: .ref m_workCoins :: .ref m_path :: .ref m_order :: .ref m_spent :: []))), (m_mem, .inl (e1, 281088, .inl f_3))] H := hP
  have hD : va_D A [(m0, .inr (11, (.ref m_mem :: .int 0 :: .int 0 :: .int 0 :: .ref m_at :: .ref m_length :: .ref m_parent :: .ref m_height :: .ref m_time :: .ref m_target :: .ref m_work :: .ref m_arrival :: .ref m_sound :: .ref m_firstTx :: .ref m_txs :: .ref m_blockId :: .int 1 :: .int 0 :: .int 0 :: .int 0 :: .int 0 :: .ref m_heldLength :: .ref m_heldArrival :: .ref m_heldId :: .int 0 :: .ref m_ids :: .ref m_poolLength :: .ref m_poolFee :: .int 0 :: .int 0 :: .int 0 :: .ref m_inId :: .ref m_inIndex :: .ref m_keyAt :: .ref m_keyLength :: .int 0 :: .ref m_outValue :: .ref m_lockAt :: .ref m_lockLength :: .ref m_w :: .ref m_h :: .ref m_once :: .ref m_digest :: .ref m_signHash :: .ref m_buffer :: .ref m_merkle :: .ref m_stack :: .ref m_sizes :: .int 0 :: .ref m_branch :: .ref m_tipCoins :: .ref m_poolCoins :: .ref m_workCoins :: .ref m_path :: .ref m_order :: .ref m_spent :: []))), (m_mem, .inl (e1, 281088, .inl f_3))] := hD
  refine lv_iinc (v := 1) (lv' := [(3, .int 1), (0, .ref m0), (1, .int (nI k)), (2, .int x1)]) hx hb d_Mo_setNumber_25 hl (k := 0) rfl (by decide) (by decide) rfl (fun ls hl => ?_)
  refine lv_goto (tgt := 2) hx hb d_Mo_setNumber_28 (by decide) ?_
  refine lv_iload_n hx hb d_Mo_setNumber_2 rfl (lv_at hl 0 rfl) ?_
  refine lv_iconst (v := 4) hx hb d_Mo_setNumber_3 (by decide) ?_
  refine lv_icmp_ge (tgt := 31) hx hb d_Mo_setNumber_4 (by decide) (fun h => absurd h (by decide)) (fun _ => ?_)
  refine lv_aload_n hx hb d_Mo_setNumber_7 rfl (lv_at hl 1 rfl) ?_
  refine va_get (D := (dC, dI)) (ci := 11) (v := .ref m_mem) (C := R_Mo) (T := F_Mo) (N := 56) hx hb hT i_Mo hown hK hP 0 rfl rfl 0 (by decide) (hT _ k_289) (fun _ h9 => h9) rfl d_Mo_setNumber_8 ?_
  refine lv_iload_n hx hb d_Mo_setNumber_11 rfl (lv_at hl 2 rfl) ?_
  refine lv_iload_n hx hb d_Mo_setNumber_12 rfl (lv_at hl 0 rfl) ?_
  refine lv_iadd hx hb d_Mo_setNumber_13 ?_
  refine zz_i (v := nI ((k) + 1)) (nI_add (k) 1) ?_
  refine lv_iload_n hx hb d_Mo_setNumber_14 rfl (lv_at hl 3 rfl) ?_
  refine lv_bipush (v := 24) hx hb d_Mo_setNumber_15 (by decide) ?_
  refine lv_bipush (v := 8) hx hb d_Mo_setNumber_17 (by decide) ?_
  refine lv_iload_n hx hb d_Mo_setNumber_19 rfl (lv_at hl 0 rfl) ?_
  refine lv_imul hx hb d_Mo_setNumber_20 ?_
  refine zz_i (v := 8) (by decide) ?_
  refine lv_isub hx hb d_Mo_setNumber_21 ?_
  refine zz_i (v := 16) (by decide) ?_
  refine lv_ishr hx hb d_Mo_setNumber_22 ?_
  refine lv_topi (fun x_5 _ => ?_)
  refine lv_i2b hx hb d_Mo_setNumber_23 rfl ?_
  refine lv_topi (fun x_6 _ => ?_)
  refine zz_bast hx hb hK hP hD hS 1 0 rfl rfl (vp_in_nI (by omega) (by omega)) hf_4 d_Mo_setNumber_24 (fun f_7 hf_8 H locs hP hD hS => ?_)
  have hP : va_P (dC, dI) cl_all [(m0, .inr (11, (.ref m_mem :: .int 0 :: .int 0 :: .int 0 :: .ref m_at :: .ref m_length :: .ref m_parent :: .ref m_height :: .ref m_time :: .ref m_target :: .ref m_work :: .ref m_arrival :: .ref m_sound :: .ref m_firstTx :: .ref m_txs :: .ref m_blockId :: .int 1 :: .int 0 :: .int 0 :: .int 0 :: .int 0 :: .ref m_heldLength :: .ref m_heldArrival :: .ref m_heldId :: .int 0 :: .ref m_ids :: .ref m_poolLength :: .ref m_poolFee :: .int 0 :: .int 0 :: .int 0 :: .ref m_inId :: .ref m_inIndex :: .ref m_keyAt :: .ref m_keyLength :: .int 0 :: .ref m_outValue :: .ref m_lockAt :: .ref m_lockLength :: .ref m_w :: .ref m_h :: .ref m_once :: .ref m_digest :: .ref m_signHash :: .ref m_buffer :: .ref m_merkle :: .ref m_stack :: .ref m_sizes :: .int 0 :: .ref m_branch :: .ref m_tipCoins :: .ref m_poolCoins :: .ref m_workCoins :: .ref m_path :: .ref m_order :: .ref m_spent :: []))), (m_mem, .inl (e1, 281088, .inl f_7))] H := hP
  have hD : va_D A [(m0, .inr (11, (.ref m_mem :: .int 0 :: .int 0 :: .int 0 :: .ref m_at :: .ref m_length :: .ref m_parent :: .ref m_height :: .ref m_time :: .ref m_target :: .ref m_work :: .ref m_arrival :: .ref m_sound :: .ref m_firstTx :: .ref m_txs :: .ref m_blockId :: .int 1 :: .int 0 :: .int 0 :: .int 0 :: .int 0 :: .ref m_heldLength :: .ref m_heldArrival :: .ref m_heldId :: .int 0 :: .ref m_ids :: .ref m_poolLength :: .ref m_poolFee :: .int 0 :: .int 0 :: .int 0 :: .ref m_inId :: .ref m_inIndex :: .ref m_keyAt :: .ref m_keyLength :: .int 0 :: .ref m_outValue :: .ref m_lockAt :: .ref m_lockLength :: .ref m_w :: .ref m_h :: .ref m_once :: .ref m_digest :: .ref m_signHash :: .ref m_buffer :: .ref m_merkle :: .ref m_stack :: .ref m_sizes :: .int 0 :: .ref m_branch :: .ref m_tipCoins :: .ref m_poolCoins :: .ref m_workCoins :: .ref m_path :: .ref m_order :: .ref m_spent :: []))), (m_mem, .inl (e1, 281088, .inl f_7))] := hD
  refine lv_iinc (v := 2) (lv' := [(3, .int 2), (0, .ref m0), (1, .int (nI k)), (2, .int x1)]) hx hb d_Mo_setNumber_25 hl (k := 0) rfl (by decide) (by decide) rfl (fun ls hl => ?_)
  refine lv_goto (tgt := 2) hx hb d_Mo_setNumber_28 (by decide) ?_
  refine lv_iload_n hx hb d_Mo_setNumber_2 rfl (lv_at hl 0 rfl) ?_
  refine lv_iconst (v := 4) hx hb d_Mo_setNumber_3 (by decide) ?_
  refine lv_icmp_ge (tgt := 31) hx hb d_Mo_setNumber_4 (by decide) (fun h => absurd h (by decide)) (fun _ => ?_)
  refine lv_aload_n hx hb d_Mo_setNumber_7 rfl (lv_at hl 1 rfl) ?_
  refine va_get (D := (dC, dI)) (ci := 11) (v := .ref m_mem) (C := R_Mo) (T := F_Mo) (N := 56) hx hb hT i_Mo hown hK hP 0 rfl rfl 0 (by decide) (hT _ k_289) (fun _ h9 => h9) rfl d_Mo_setNumber_8 ?_
  refine lv_iload_n hx hb d_Mo_setNumber_11 rfl (lv_at hl 2 rfl) ?_
  refine lv_iload_n hx hb d_Mo_setNumber_12 rfl (lv_at hl 0 rfl) ?_
  refine lv_iadd hx hb d_Mo_setNumber_13 ?_
  refine zz_i (v := nI ((k) + 2)) (nI_add (k) 2) ?_
  refine lv_iload_n hx hb d_Mo_setNumber_14 rfl (lv_at hl 3 rfl) ?_
  refine lv_bipush (v := 24) hx hb d_Mo_setNumber_15 (by decide) ?_
  refine lv_bipush (v := 8) hx hb d_Mo_setNumber_17 (by decide) ?_
  refine lv_iload_n hx hb d_Mo_setNumber_19 rfl (lv_at hl 0 rfl) ?_
  refine lv_imul hx hb d_Mo_setNumber_20 ?_
  refine zz_i (v := 16) (by decide) ?_
  refine lv_isub hx hb d_Mo_setNumber_21 ?_
  refine zz_i (v := 8) (by decide) ?_
  refine lv_ishr hx hb d_Mo_setNumber_22 ?_
  refine lv_topi (fun x_9 _ => ?_)
  refine lv_i2b hx hb d_Mo_setNumber_23 rfl ?_
  refine lv_topi (fun x_10 _ => ?_)
  refine zz_bast hx hb hK hP hD hS 1 0 rfl rfl (vp_in_nI (by omega) (by omega)) hf_8 d_Mo_setNumber_24 (fun f_11 hf_12 H locs hP hD hS => ?_)
  have hP : va_P (dC, dI) cl_all [(m0, .inr (11, (.ref m_mem :: .int 0 :: .int 0 :: .int 0 :: .ref m_at :: .ref m_length :: .ref m_parent :: .ref m_height :: .ref m_time :: .ref m_target :: .ref m_work :: .ref m_arrival :: .ref m_sound :: .ref m_firstTx :: .ref m_txs :: .ref m_blockId :: .int 1 :: .int 0 :: .int 0 :: .int 0 :: .int 0 :: .ref m_heldLength :: .ref m_heldArrival :: .ref m_heldId :: .int 0 :: .ref m_ids :: .ref m_poolLength :: .ref m_poolFee :: .int 0 :: .int 0 :: .int 0 :: .ref m_inId :: .ref m_inIndex :: .ref m_keyAt :: .ref m_keyLength :: .int 0 :: .ref m_outValue :: .ref m_lockAt :: .ref m_lockLength :: .ref m_w :: .ref m_h :: .ref m_once :: .ref m_digest :: .ref m_signHash :: .ref m_buffer :: .ref m_merkle :: .ref m_stack :: .ref m_sizes :: .int 0 :: .ref m_branch :: .ref m_tipCoins :: .ref m_poolCoins :: .ref m_workCoins :: .ref m_path :: .ref m_order :: .ref m_spent :: []))), (m_mem, .inl (e1, 281088, .inl f_11))] H := hP
  have hD : va_D A [(m0, .inr (11, (.ref m_mem :: .int 0 :: .int 0 :: .int 0 :: .ref m_at :: .ref m_length :: .ref m_parent :: .ref m_height :: .ref m_time :: .ref m_target :: .ref m_work :: .ref m_arrival :: .ref m_sound :: .ref m_firstTx :: .ref m_txs :: .ref m_blockId :: .int 1 :: .int 0 :: .int 0 :: .int 0 :: .int 0 :: .ref m_heldLength :: .ref m_heldArrival :: .ref m_heldId :: .int 0 :: .ref m_ids :: .ref m_poolLength :: .ref m_poolFee :: .int 0 :: .int 0 :: .int 0 :: .ref m_inId :: .ref m_inIndex :: .ref m_keyAt :: .ref m_keyLength :: .int 0 :: .ref m_outValue :: .ref m_lockAt :: .ref m_lockLength :: .ref m_w :: .ref m_h :: .ref m_once :: .ref m_digest :: .ref m_signHash :: .ref m_buffer :: .ref m_merkle :: .ref m_stack :: .ref m_sizes :: .int 0 :: .ref m_branch :: .ref m_tipCoins :: .ref m_poolCoins :: .ref m_workCoins :: .ref m_path :: .ref m_order :: .ref m_spent :: []))), (m_mem, .inl (e1, 281088, .inl f_11))] := hD
  refine lv_iinc (v := 3) (lv' := [(3, .int 3), (0, .ref m0), (1, .int (nI k)), (2, .int x1)]) hx hb d_Mo_setNumber_25 hl (k := 0) rfl (by decide) (by decide) rfl (fun ls hl => ?_)
  refine lv_goto (tgt := 2) hx hb d_Mo_setNumber_28 (by decide) ?_
  refine lv_iload_n hx hb d_Mo_setNumber_2 rfl (lv_at hl 0 rfl) ?_
  refine lv_iconst (v := 4) hx hb d_Mo_setNumber_3 (by decide) ?_
  refine lv_icmp_ge (tgt := 31) hx hb d_Mo_setNumber_4 (by decide) (fun h => absurd h (by decide)) (fun _ => ?_)
  refine lv_aload_n hx hb d_Mo_setNumber_7 rfl (lv_at hl 1 rfl) ?_
  refine va_get (D := (dC, dI)) (ci := 11) (v := .ref m_mem) (C := R_Mo) (T := F_Mo) (N := 56) hx hb hT i_Mo hown hK hP 0 rfl rfl 0 (by decide) (hT _ k_289) (fun _ h9 => h9) rfl d_Mo_setNumber_8 ?_
  refine lv_iload_n hx hb d_Mo_setNumber_11 rfl (lv_at hl 2 rfl) ?_
  refine lv_iload_n hx hb d_Mo_setNumber_12 rfl (lv_at hl 0 rfl) ?_
  refine lv_iadd hx hb d_Mo_setNumber_13 ?_
  refine zz_i (v := nI ((k) + 3)) (nI_add (k) 3) ?_
  refine lv_iload_n hx hb d_Mo_setNumber_14 rfl (lv_at hl 3 rfl) ?_
  refine lv_bipush (v := 24) hx hb d_Mo_setNumber_15 (by decide) ?_
  refine lv_bipush (v := 8) hx hb d_Mo_setNumber_17 (by decide) ?_
  refine lv_iload_n hx hb d_Mo_setNumber_19 rfl (lv_at hl 0 rfl) ?_
  refine lv_imul hx hb d_Mo_setNumber_20 ?_
  refine zz_i (v := 24) (by decide) ?_
  refine lv_isub hx hb d_Mo_setNumber_21 ?_
  refine zz_i (v := 0) (by decide) ?_
  refine lv_ishr hx hb d_Mo_setNumber_22 ?_
  refine lv_topi (fun x_13 _ => ?_)
  refine lv_i2b hx hb d_Mo_setNumber_23 rfl ?_
  refine lv_topi (fun x_14 _ => ?_)
  refine zz_bast hx hb hK hP hD hS 1 0 rfl rfl (vp_in_nI (by omega) (by omega)) hf_12 d_Mo_setNumber_24 (fun f_15 hf_16 H locs hP hD hS => ?_)
  have hP : va_P (dC, dI) cl_all [(m0, .inr (11, (.ref m_mem :: .int 0 :: .int 0 :: .int 0 :: .ref m_at :: .ref m_length :: .ref m_parent :: .ref m_height :: .ref m_time :: .ref m_target :: .ref m_work :: .ref m_arrival :: .ref m_sound :: .ref m_firstTx :: .ref m_txs :: .ref m_blockId :: .int 1 :: .int 0 :: .int 0 :: .int 0 :: .int 0 :: .ref m_heldLength :: .ref m_heldArrival :: .ref m_heldId :: .int 0 :: .ref m_ids :: .ref m_poolLength :: .ref m_poolFee :: .int 0 :: .int 0 :: .int 0 :: .ref m_inId :: .ref m_inIndex :: .ref m_keyAt :: .ref m_keyLength :: .int 0 :: .ref m_outValue :: .ref m_lockAt :: .ref m_lockLength :: .ref m_w :: .ref m_h :: .ref m_once :: .ref m_digest :: .ref m_signHash :: .ref m_buffer :: .ref m_merkle :: .ref m_stack :: .ref m_sizes :: .int 0 :: .ref m_branch :: .ref m_tipCoins :: .ref m_poolCoins :: .ref m_workCoins :: .ref m_path :: .ref m_order :: .ref m_spent :: []))), (m_mem, .inl (e1, 281088, .inl f_15))] H := hP
  have hD : va_D A [(m0, .inr (11, (.ref m_mem :: .int 0 :: .int 0 :: .int 0 :: .ref m_at :: .ref m_length :: .ref m_parent :: .ref m_height :: .ref m_time :: .ref m_target :: .ref m_work :: .ref m_arrival :: .ref m_sound :: .ref m_firstTx :: .ref m_txs :: .ref m_blockId :: .int 1 :: .int 0 :: .int 0 :: .int 0 :: .int 0 :: .ref m_heldLength :: .ref m_heldArrival :: .ref m_heldId :: .int 0 :: .ref m_ids :: .ref m_poolLength :: .ref m_poolFee :: .int 0 :: .int 0 :: .int 0 :: .ref m_inId :: .ref m_inIndex :: .ref m_keyAt :: .ref m_keyLength :: .int 0 :: .ref m_outValue :: .ref m_lockAt :: .ref m_lockLength :: .ref m_w :: .ref m_h :: .ref m_once :: .ref m_digest :: .ref m_signHash :: .ref m_buffer :: .ref m_merkle :: .ref m_stack :: .ref m_sizes :: .int 0 :: .ref m_branch :: .ref m_tipCoins :: .ref m_poolCoins :: .ref m_workCoins :: .ref m_path :: .ref m_order :: .ref m_spent :: []))), (m_mem, .inl (e1, 281088, .inl f_15))] := hD
  refine lv_iinc (v := 4) (lv' := [(3, .int 4), (0, .ref m0), (1, .int (nI k)), (2, .int x1)]) hx hb d_Mo_setNumber_25 hl (k := 0) rfl (by decide) (by decide) rfl (fun ls hl => ?_)
  refine lv_goto (tgt := 2) hx hb d_Mo_setNumber_28 (by decide) ?_
  refine lv_iload_n hx hb d_Mo_setNumber_2 rfl (lv_at hl 0 rfl) ?_
  refine lv_iconst (v := 4) hx hb d_Mo_setNumber_3 (by decide) ?_
  refine lv_icmp_ge (tgt := 31) hx hb d_Mo_setNumber_4 (by decide) (fun _ => ?_) (fun h => absurd (by decide) h)
  have hP9 := hP.sub (ws' := [(m0, .inr (11, (.ref m_mem :: .int 0 :: .int 0 :: .int 0 :: .ref m_at :: .ref m_length :: .ref m_parent :: .ref m_height :: .ref m_time :: .ref m_target :: .ref m_work :: .ref m_arrival :: .ref m_sound :: .ref m_firstTx :: .ref m_txs :: .ref m_blockId :: .int 1 :: .int 0 :: .int 0 :: .int 0 :: .int 0 :: .ref m_heldLength :: .ref m_heldArrival :: .ref m_heldId :: .int 0 :: .ref m_ids :: .ref m_poolLength :: .ref m_poolFee :: .int 0 :: .int 0 :: .int 0 :: .ref m_inId :: .ref m_inIndex :: .ref m_keyAt :: .ref m_keyLength :: .int 0 :: .ref m_outValue :: .ref m_lockAt :: .ref m_lockLength :: .ref m_w :: .ref m_h :: .ref m_once :: .ref m_digest :: .ref m_signHash :: .ref m_buffer :: .ref m_merkle :: .ref m_stack :: .ref m_sizes :: .int 0 :: .ref m_branch :: .ref m_tipCoins :: .ref m_poolCoins :: .ref m_workCoins :: .ref m_path :: .ref m_order :: .ref m_spent :: []))), (m_mem, .inl (e1, 281088, .inl f_15))]) [0, 1] rfl
  have hD9 := hD.sub (ws' := [(m0, .inr (11, (.ref m_mem :: .int 0 :: .int 0 :: .int 0 :: .ref m_at :: .ref m_length :: .ref m_parent :: .ref m_height :: .ref m_time :: .ref m_target :: .ref m_work :: .ref m_arrival :: .ref m_sound :: .ref m_firstTx :: .ref m_txs :: .ref m_blockId :: .int 1 :: .int 0 :: .int 0 :: .int 0 :: .int 0 :: .ref m_heldLength :: .ref m_heldArrival :: .ref m_heldId :: .int 0 :: .ref m_ids :: .ref m_poolLength :: .ref m_poolFee :: .int 0 :: .int 0 :: .int 0 :: .ref m_inId :: .ref m_inIndex :: .ref m_keyAt :: .ref m_keyLength :: .int 0 :: .ref m_outValue :: .ref m_lockAt :: .ref m_lockLength :: .ref m_w :: .ref m_h :: .ref m_once :: .ref m_digest :: .ref m_signHash :: .ref m_buffer :: .ref m_merkle :: .ref m_stack :: .ref m_sizes :: .int 0 :: .ref m_branch :: .ref m_tipCoins :: .ref m_poolCoins :: .ref m_workCoins :: .ref m_path :: .ref m_order :: .ref m_spent :: []))), (m_mem, .inl (e1, 281088, .inl f_15))]) [0, 1] (by decide) rfl
  have hK9 := hK.sub (tys' := []) [] rfl
  exact W.vret hx hb hr (fun t9 ht9 hW9 => ⟨⟨(), rfl, trivial, ⟨f_15, hf_16, by rw [ht9]; exact hP9, va_K.moved hW9.alike hK9, hD9⟩⟩, hS.F ht9⟩) hS.2.2 d_Mo_setNumber_31
set_option maxHeartbeats 4000000 in
set_option maxRecDepth 100000 in
theorem c_Mo_standard (l : Launch) (dC : Nat → ClassId) (dI : Nat → Nat → Nat) (z : zT) (sz : Nat) (m0 m_mem m_at m_length m_parent m_height m_time m_target m_work m_arrival m_sound m_firstTx m_txs m_blockId m_heldLength m_heldArrival m_heldId m_ids m_poolLength m_poolFee m_inId m_inIndex m_keyAt m_keyLength m_outValue m_lockAt m_lockLength m_w m_h m_once m_digest m_signHash m_buffer m_merkle m_stack m_sizes m_branch m_tipCoins m_poolCoins m_workCoins m_path m_order m_spent : Nat) (e1 : ClassId) (f : Nat → Int32) (k : Nat) (x1 : Int32) (hf_f : sb_Fit f) (hk : k + 7 ≤ 281088) : Met l y_Mo_standard w_Mo_standard ({ frames := 1, cells := 0, slots := 0, locals := 23 }) (va_Pc [.ref m0, .int (nI k), .int x1] (fun U => U.heap.size = sz ∧ va_P (dC, dI) cl_all [(m0, .inr (11, (.ref m_mem :: .int 0 :: .int 0 :: .int 0 :: .ref m_at :: .ref m_length :: .ref m_parent :: .ref m_height :: .ref m_time :: .ref m_target :: .ref m_work :: .ref m_arrival :: .ref m_sound :: .ref m_firstTx :: .ref m_txs :: .ref m_blockId :: .int 1 :: .int 0 :: .int 0 :: .int 0 :: .int 0 :: .ref m_heldLength :: .ref m_heldArrival :: .ref m_heldId :: .int 0 :: .ref m_ids :: .ref m_poolLength :: .ref m_poolFee :: .int 0 :: .int 0 :: .int 0 :: .ref m_inId :: .ref m_inIndex :: .ref m_keyAt :: .ref m_keyLength :: .int 0 :: .ref m_outValue :: .ref m_lockAt :: .ref m_lockLength :: .ref m_w :: .ref m_h :: .ref m_once :: .ref m_digest :: .ref m_signHash :: .ref m_buffer :: .ref m_merkle :: .ref m_stack :: .ref m_sizes :: .int 0 :: .ref m_branch :: .ref m_tipCoins :: .ref m_poolCoins :: .ref m_workCoins :: .ref m_path :: .ref m_order :: .ref m_spent :: []))), (m_mem, .inl (e1, 281088, .inl f))] U.heap ∧ va_K (dC, dI) cl_all [(e1, .byte)] U ∧ va_D (fun _ => True) [(m0, .inr (11, (.ref m_mem :: .int 0 :: .int 0 :: .int 0 :: .ref m_at :: .ref m_length :: .ref m_parent :: .ref m_height :: .ref m_time :: .ref m_target :: .ref m_work :: .ref m_arrival :: .ref m_sound :: .ref m_firstTx :: .ref m_txs :: .ref m_blockId :: .int 1 :: .int 0 :: .int 0 :: .int 0 :: .int 0 :: .ref m_heldLength :: .ref m_heldArrival :: .ref m_heldId :: .int 0 :: .ref m_ids :: .ref m_poolLength :: .ref m_poolFee :: .int 0 :: .int 0 :: .int 0 :: .ref m_inId :: .ref m_inIndex :: .ref m_keyAt :: .ref m_keyLength :: .int 0 :: .ref m_outValue :: .ref m_lockAt :: .ref m_lockLength :: .ref m_w :: .ref m_h :: .ref m_once :: .ref m_digest :: .ref m_signHash :: .ref m_buffer :: .ref m_merkle :: .ref m_stack :: .ref m_sizes :: .int 0 :: .ref m_branch :: .ref m_tipCoins :: .ref m_poolCoins :: .ref m_workCoins :: .ref m_path :: .ref m_order :: .ref m_spent :: []))), (m_mem, .inl (e1, 281088, .inl f))] ∧ zz z (va_A [(m0, .inr (11, (.ref m_mem :: .int 0 :: .int 0 :: .int 0 :: .ref m_at :: .ref m_length :: .ref m_parent :: .ref m_height :: .ref m_time :: .ref m_target :: .ref m_work :: .ref m_arrival :: .ref m_sound :: .ref m_firstTx :: .ref m_txs :: .ref m_blockId :: .int 1 :: .int 0 :: .int 0 :: .int 0 :: .int 0 :: .ref m_heldLength :: .ref m_heldArrival :: .ref m_heldId :: .int 0 :: .ref m_ids :: .ref m_poolLength :: .ref m_poolFee :: .int 0 :: .int 0 :: .int 0 :: .ref m_inId :: .ref m_inIndex :: .ref m_keyAt :: .ref m_keyLength :: .int 0 :: .ref m_outValue :: .ref m_lockAt :: .ref m_lockLength :: .ref m_w :: .ref m_h :: .ref m_once :: .ref m_digest :: .ref m_signHash :: .ref m_buffer :: .ref m_merkle :: .ref m_stack :: .ref m_sizes :: .int 0 :: .ref m_branch :: .ref m_tipCoins :: .ref m_poolCoins :: .ref m_workCoins :: .ref m_path :: .ref m_order :: .ref m_spent :: []))), (m_mem, .inl (e1, 281088, .inl f))] sz) U U.heap)) (va_Qi (fun (r : Int32) (_ : Unit) => True) (fun _ t => ∃ (g : Nat → Int32), sb_Fit g ∧ va_P (dC, dI) cl_all [(m0, .inr (11, (.ref m_mem :: .int 0 :: .int 0 :: .int 0 :: .ref m_at :: .ref m_length :: .ref m_parent :: .ref m_height :: .ref m_time :: .ref m_target :: .ref m_work :: .ref m_arrival :: .ref m_sound :: .ref m_firstTx :: .ref m_txs :: .ref m_blockId :: .int 1 :: .int 0 :: .int 0 :: .int 0 :: .int 0 :: .ref m_heldLength :: .ref m_heldArrival :: .ref m_heldId :: .int 0 :: .ref m_ids :: .ref m_poolLength :: .ref m_poolFee :: .int 0 :: .int 0 :: .int 0 :: .ref m_inId :: .ref m_inIndex :: .ref m_keyAt :: .ref m_keyLength :: .int 0 :: .ref m_outValue :: .ref m_lockAt :: .ref m_lockLength :: .ref m_w :: .ref m_h :: .ref m_once :: .ref m_digest :: .ref m_signHash :: .ref m_buffer :: .ref m_merkle :: .ref m_stack :: .ref m_sizes :: .int 0 :: .ref m_branch :: .ref m_tipCoins :: .ref m_poolCoins :: .ref m_workCoins :: .ref m_path :: .ref m_order :: .ref m_spent :: []))), (m_mem, .inl (e1, 281088, .inl g))] t.heap ∧ va_K (dC, dI) cl_all [] t ∧ va_D (va_A [(m0, .inr (11, (.ref m_mem :: .int 0 :: .int 0 :: .int 0 :: .ref m_at :: .ref m_length :: .ref m_parent :: .ref m_height :: .ref m_time :: .ref m_target :: .ref m_work :: .ref m_arrival :: .ref m_sound :: .ref m_firstTx :: .ref m_txs :: .ref m_blockId :: .int 1 :: .int 0 :: .int 0 :: .int 0 :: .int 0 :: .ref m_heldLength :: .ref m_heldArrival :: .ref m_heldId :: .int 0 :: .ref m_ids :: .ref m_poolLength :: .ref m_poolFee :: .int 0 :: .int 0 :: .int 0 :: .ref m_inId :: .ref m_inIndex :: .ref m_keyAt :: .ref m_keyLength :: .int 0 :: .ref m_outValue :: .ref m_lockAt :: .ref m_lockLength :: .ref m_w :: .ref m_h :: .ref m_once :: .ref m_digest :: .ref m_signHash :: .ref m_buffer :: .ref m_merkle :: .ref m_stack :: .ref m_sizes :: .int 0 :: .ref m_branch :: .ref m_tipCoins :: .ref m_poolCoins :: .ref m_workCoins :: .ref m_path :: .ref m_order :: .ref m_spent :: []))), (m_mem, .inl (e1, 281088, .inl f))] sz) [(m0, .inr (11, (.ref m_mem :: .int 0 :: .int 0 :: .int 0 :: .ref m_at :: .ref m_length :: .ref m_parent :: .ref m_height :: .ref m_time :: .ref m_target :: .ref m_work :: .ref m_arrival :: .ref m_sound :: .ref m_firstTx :: .ref m_txs :: .ref m_blockId :: .int 1 :: .int 0 :: .int 0 :: .int 0 :: .int 0 :: .ref m_heldLength :: .ref m_heldArrival :: .ref m_heldId :: .int 0 :: .ref m_ids :: .ref m_poolLength :: .ref m_poolFee :: .int 0 :: .int 0 :: .int 0 :: .ref m_inId :: .ref m_inIndex :: .ref m_keyAt :: .ref m_keyLength :: .int 0 :: .ref m_outValue :: .ref m_lockAt :: .ref m_lockLength :: .ref m_w :: .ref m_h :: .ref m_once :: .ref m_digest :: .ref m_signHash :: .ref m_buffer :: .ref m_merkle :: .ref m_stack :: .ref m_sizes :: .int 0 :: .ref m_branch :: .ref m_tipCoins :: .ref m_poolCoins :: .ref m_workCoins :: .ref m_path :: .ref m_order :: .ref m_spent :: []))), (m_mem, .inl (e1, 281088, .inl g))]) (va_A [(m0, .inr (11, (.ref m_mem :: .int 0 :: .int 0 :: .int 0 :: .ref m_at :: .ref m_length :: .ref m_parent :: .ref m_height :: .ref m_time :: .ref m_target :: .ref m_work :: .ref m_arrival :: .ref m_sound :: .ref m_firstTx :: .ref m_txs :: .ref m_blockId :: .int 1 :: .int 0 :: .int 0 :: .int 0 :: .int 0 :: .ref m_heldLength :: .ref m_heldArrival :: .ref m_heldId :: .int 0 :: .ref m_ids :: .ref m_poolLength :: .ref m_poolFee :: .int 0 :: .int 0 :: .int 0 :: .ref m_inId :: .ref m_inIndex :: .ref m_keyAt :: .ref m_keyLength :: .int 0 :: .ref m_outValue :: .ref m_lockAt :: .ref m_lockLength :: .ref m_w :: .ref m_h :: .ref m_once :: .ref m_digest :: .ref m_signHash :: .ref m_buffer :: .ref m_merkle :: .ref m_stack :: .ref m_sizes :: .int 0 :: .ref m_branch :: .ref m_tipCoins :: .ref m_poolCoins :: .ref m_workCoins :: .ref m_path :: .ref m_order :: .ref m_spent :: []))), (m_mem, .inl (e1, 281088, .inl f))] sz)) 0 0 (va_A [(m0, .inr (11, (.ref m_mem :: .int 0 :: .int 0 :: .int 0 :: .ref m_at :: .ref m_length :: .ref m_parent :: .ref m_height :: .ref m_time :: .ref m_target :: .ref m_work :: .ref m_arrival :: .ref m_sound :: .ref m_firstTx :: .ref m_txs :: .ref m_blockId :: .int 1 :: .int 0 :: .int 0 :: .int 0 :: .int 0 :: .ref m_heldLength :: .ref m_heldArrival :: .ref m_heldId :: .int 0 :: .ref m_ids :: .ref m_poolLength :: .ref m_poolFee :: .int 0 :: .int 0 :: .int 0 :: .ref m_inId :: .ref m_inIndex :: .ref m_keyAt :: .ref m_keyLength :: .int 0 :: .ref m_outValue :: .ref m_lockAt :: .ref m_lockLength :: .ref m_w :: .ref m_h :: .ref m_once :: .ref m_digest :: .ref m_signHash :: .ref m_buffer :: .ref m_merkle :: .ref m_stack :: .ref m_sizes :: .int 0 :: .ref m_branch :: .ref m_tipCoins :: .ref m_poolCoins :: .ref m_workCoins :: .ref m_path :: .ref m_order :: .ref m_spent :: []))), (m_mem, .inl (e1, 281088, .inl f))] sz) := by
  refine Met.ofW (cc := b_Mo_standard) (maxL := 3) (ret := (some (.int))) (by decide) rfl ?_
  intro p e s m args below meth c s₁ B hml hv
  obtain ⟨rfl, hsz, hP, hK, hD0, hZ⟩ := hv
  have hx := B.exec
  have hb := B.bytes
  have hr := B.returns
  have hT : ∀ w ∈ lw_all, w.before _ s = true := fun w h => atoms_spec (ws := w_Mo_standard) B.pre w (List.mem_cons_of_mem _ h)
  have hown : s.vm.findClass R_Mo = some m.cls := findClass_of_methodNamed B.named
  have hlocks := B.notSynchronized
  subst hsz
  have hD := hD0.self (sz := s.heap.size)
  generalize hAe : va_A [(m0, .inr (11, (.ref m_mem :: .int 0 :: .int 0 :: .int 0 :: .ref m_at :: .ref m_length :: .ref m_parent :: .ref m_height :: .ref m_time :: .ref m_target :: .ref m_work :: .ref m_arrival :: .ref m_sound :: .ref m_firstTx :: .ref m_txs :: .ref m_blockId :: .int 1 :: .int 0 :: .int 0 :: .int 0 :: .int 0 :: .ref m_heldLength :: .ref m_heldArrival :: .ref m_heldId :: .int 0 :: .ref m_ids :: .ref m_poolLength :: .ref m_poolFee :: .int 0 :: .int 0 :: .int 0 :: .ref m_inId :: .ref m_inIndex :: .ref m_keyAt :: .ref m_keyLength :: .int 0 :: .ref m_outValue :: .ref m_lockAt :: .ref m_lockLength :: .ref m_w :: .ref m_h :: .ref m_once :: .ref m_digest :: .ref m_signHash :: .ref m_buffer :: .ref m_merkle :: .ref m_stack :: .ref m_sizes :: .int 0 :: .ref m_branch :: .ref m_tipCoins :: .ref m_poolCoins :: .ref m_workCoins :: .ref m_path :: .ref m_order :: .ref m_spent :: []))), (m_mem, .inl (e1, 281088, .inl f))] s.heap.size = A at hD hZ ⊢
  have hA : ∀ q : Nat, s.heap.size ≤ q → A q := fun q h => by rw [← hAe]; exact Or.inr h
  have hS : va_S A s.heap s.heap [] := va_S.rf
  have hl := lv_entry ([.ref m0, .int (nI k), .int x1]) (n := 3) (Nat.le_of_ble_eq_true rfl)
  rw [lg_entry_eq]
  generalize (lg_sl ([.ref m0, .int (nI k), .int x1]) ++ List.replicate (3 - (lg_sl ([.ref m0, .int (nI k), .int x1])).length) Slot.unset).toArray = ls at hl ⊢
  have hl : lv_has ls 3 [(0, .ref m0), (1, .int (nI k)), (2, .int x1)] := hl
  refine lv_aload_n hx hb d_Mo_standard_0 rfl (lv_at hl 0 rfl) ?_
  refine va_get (D := (dC, dI)) (ci := 11) (v := .ref m_mem) (C := R_Mo) (T := F_Mo) (N := 56) hx hb hT i_Mo hown hK hP 0 rfl rfl 0 (by decide) (hT _ k_289) (fun _ h9 => h9) rfl d_Mo_standard_1 ?_
  refine lv_iload_n hx hb d_Mo_standard_4 rfl (lv_at hl 1 rfl) ?_
  refine lv_bipush (v := 6) hx hb d_Mo_standard_5 (by decide) ?_
  refine zz_bast hx hb hK hP hD hS 1 0 rfl rfl (vp_in_nI (by omega) (by omega)) hf_f d_Mo_standard_7 (fun f_1 hf_2 H locs hP hD hS => ?_)
  have hP : va_P (dC, dI) cl_all [(m0, .inr (11, (.ref m_mem :: .int 0 :: .int 0 :: .int 0 :: .ref m_at :: .ref m_length :: .ref m_parent :: .ref m_height :: .ref m_time :: .ref m_target :: .ref m_work :: .ref m_arrival :: .ref m_sound :: .ref m_firstTx :: .ref m_txs :: .ref m_blockId :: .int 1 :: .int 0 :: .int 0 :: .int 0 :: .int 0 :: .ref m_heldLength :: .ref m_heldArrival :: .ref m_heldId :: .int 0 :: .ref m_ids :: .ref m_poolLength :: .ref m_poolFee :: .int 0 :: .int 0 :: .int 0 :: .ref m_inId :: .ref m_inIndex :: .ref m_keyAt :: .ref m_keyLength :: .int 0 :: .ref m_outValue :: .ref m_lockAt :: .ref m_lockLength :: .ref m_w :: .ref m_h :: .ref m_once :: .ref m_digest :: .ref m_signHash :: .ref m_buffer :: .ref m_merkle :: .ref m_stack :: .ref m_sizes :: .int 0 :: .ref m_branch :: .ref m_tipCoins :: .ref m_poolCoins :: .ref m_workCoins :: .ref m_path :: .ref m_order :: .ref m_spent :: []))), (m_mem, .inl (e1, 281088, .inl f_1))] H := hP
  have hD : va_D A [(m0, .inr (11, (.ref m_mem :: .int 0 :: .int 0 :: .int 0 :: .ref m_at :: .ref m_length :: .ref m_parent :: .ref m_height :: .ref m_time :: .ref m_target :: .ref m_work :: .ref m_arrival :: .ref m_sound :: .ref m_firstTx :: .ref m_txs :: .ref m_blockId :: .int 1 :: .int 0 :: .int 0 :: .int 0 :: .int 0 :: .ref m_heldLength :: .ref m_heldArrival :: .ref m_heldId :: .int 0 :: .ref m_ids :: .ref m_poolLength :: .ref m_poolFee :: .int 0 :: .int 0 :: .int 0 :: .ref m_inId :: .ref m_inIndex :: .ref m_keyAt :: .ref m_keyLength :: .int 0 :: .ref m_outValue :: .ref m_lockAt :: .ref m_lockLength :: .ref m_w :: .ref m_h :: .ref m_once :: .ref m_digest :: .ref m_signHash :: .ref m_buffer :: .ref m_merkle :: .ref m_stack :: .ref m_sizes :: .int 0 :: .ref m_branch :: .ref m_tipCoins :: .ref m_poolCoins :: .ref m_workCoins :: .ref m_path :: .ref m_order :: .ref m_spent :: []))), (m_mem, .inl (e1, 281088, .inl f_1))] := hD
  refine lv_aload_n hx hb d_Mo_standard_8 rfl (lv_at hl 0 rfl) ?_
  refine va_get (D := (dC, dI)) (ci := 11) (v := .ref m_mem) (C := R_Mo) (T := F_Mo) (N := 56) hx hb hT i_Mo hown hK hP 0 rfl rfl 0 (by decide) (hT _ k_289) (fun _ h9 => h9) rfl d_Mo_standard_9 ?_
  refine lv_iload_n hx hb d_Mo_standard_12 rfl (lv_at hl 1 rfl) ?_
  refine lv_iconst (v := 1) hx hb d_Mo_standard_13 (by decide) ?_
  refine lv_iadd hx hb d_Mo_standard_14 ?_
  refine zz_i (v := nI ((k) + 1)) (nI_add (k) 1) ?_
  refine lv_iconst (v := 4) hx hb d_Mo_standard_15 (by decide) ?_
  refine zz_bast hx hb hK hP hD hS 1 0 rfl rfl (vp_in_nI (by omega) (by omega)) hf_2 d_Mo_standard_16 (fun f_3 hf_4 H locs hP hD hS => ?_)
  have hP : va_P (dC, dI) cl_all [(m0, .inr (11, (.ref m_mem :: .int 0 :: .int 0 :: .int 0 :: .ref m_at :: .ref m_length :: .ref m_parent :: .ref m_height :: .ref m_time :: .ref m_target :: .ref m_work :: .ref m_arrival :: .ref m_sound :: .ref m_firstTx :: .ref m_txs :: .ref m_blockId :: .int 1 :: .int 0 :: .int 0 :: .int 0 :: .int 0 :: .ref m_heldLength :: .ref m_heldArrival :: .ref m_heldId :: .int 0 :: .ref m_ids :: .ref m_poolLength :: .ref m_poolFee :: .int 0 :: .int 0 :: .int 0 :: .ref m_inId :: .ref m_inIndex :: .ref m_keyAt :: .ref m_keyLength :: .int 0 :: .ref m_outValue :: .ref m_lockAt :: .ref m_lockLength :: .ref m_w :: .ref m_h :: .ref m_once :: .ref m_digest :: .ref m_signHash :: .ref m_buffer :: .ref m_merkle :: .ref m_stack :: .ref m_sizes :: .int 0 :: .ref m_branch :: .ref m_tipCoins :: .ref m_poolCoins :: .ref m_workCoins :: .ref m_path :: .ref m_order :: .ref m_spent :: []))), (m_mem, .inl (e1, 281088, .inl f_3))] H := hP
  have hD : va_D A [(m0, .inr (11, (.ref m_mem :: .int 0 :: .int 0 :: .int 0 :: .ref m_at :: .ref m_length :: .ref m_parent :: .ref m_height :: .ref m_time :: .ref m_target :: .ref m_work :: .ref m_arrival :: .ref m_sound :: .ref m_firstTx :: .ref m_txs :: .ref m_blockId :: .int 1 :: .int 0 :: .int 0 :: .int 0 :: .int 0 :: .ref m_heldLength :: .ref m_heldArrival :: .ref m_heldId :: .int 0 :: .ref m_ids :: .ref m_poolLength :: .ref m_poolFee :: .int 0 :: .int 0 :: .int 0 :: .ref m_inId :: .ref m_inIndex :: .ref m_keyAt :: .ref m_keyLength :: .int 0 :: .ref m_outValue :: .ref m_lockAt :: .ref m_lockLength :: .ref m_w :: .ref m_h :: .ref m_once :: .ref m_digest :: .ref m_signHash :: .ref m_buffer :: .ref m_merkle :: .ref m_stack :: .ref m_sizes :: .int 0 :: .ref m_branch :: .ref m_tipCoins :: .ref m_poolCoins :: .ref m_workCoins :: .ref m_path :: .ref m_order :: .ref m_spent :: []))), (m_mem, .inl (e1, 281088, .inl f_3))] := hD
  refine lv_aload_n hx hb d_Mo_standard_17 rfl (lv_at hl 0 rfl) ?_
  refine lv_iload_n hx hb d_Mo_standard_18 rfl (lv_at hl 1 rfl) ?_
  refine lv_iconst (v := 2) hx hb d_Mo_standard_19 (by decide) ?_
  refine lv_iadd hx hb d_Mo_standard_20 ?_
  refine zz_i (v := nI ((k) + 2)) (nI_add (k) 2) ?_
  refine lv_iload_n hx hb d_Mo_standard_21 rfl (lv_at hl 2 rfl) ?_
  have hPc := hP.sub (ws' := [(m0, .inr (11, (.ref m_mem :: .int 0 :: .int 0 :: .int 0 :: .ref m_at :: .ref m_length :: .ref m_parent :: .ref m_height :: .ref m_time :: .ref m_target :: .ref m_work :: .ref m_arrival :: .ref m_sound :: .ref m_firstTx :: .ref m_txs :: .ref m_blockId :: .int 1 :: .int 0 :: .int 0 :: .int 0 :: .int 0 :: .ref m_heldLength :: .ref m_heldArrival :: .ref m_heldId :: .int 0 :: .ref m_ids :: .ref m_poolLength :: .ref m_poolFee :: .int 0 :: .int 0 :: .int 0 :: .ref m_inId :: .ref m_inIndex :: .ref m_keyAt :: .ref m_keyLength :: .int 0 :: .ref m_outValue :: .ref m_lockAt :: .ref m_lockLength :: .ref m_w :: .ref m_h :: .ref m_once :: .ref m_digest :: .ref m_signHash :: .ref m_buffer :: .ref m_merkle :: .ref m_stack :: .ref m_sizes :: .int 0 :: .ref m_branch :: .ref m_tipCoins :: .ref m_poolCoins :: .ref m_workCoins :: .ref m_path :: .ref m_order :: .ref m_spent :: []))), (m_mem, .inl (e1, 281088, .inl f_3))]) [0, 1] rfl
  have hDc := hD.sub (ws' := [(m0, .inr (11, (.ref m_mem :: .int 0 :: .int 0 :: .int 0 :: .ref m_at :: .ref m_length :: .ref m_parent :: .ref m_height :: .ref m_time :: .ref m_target :: .ref m_work :: .ref m_arrival :: .ref m_sound :: .ref m_firstTx :: .ref m_txs :: .ref m_blockId :: .int 1 :: .int 0 :: .int 0 :: .int 0 :: .int 0 :: .ref m_heldLength :: .ref m_heldArrival :: .ref m_heldId :: .int 0 :: .ref m_ids :: .ref m_poolLength :: .ref m_poolFee :: .int 0 :: .int 0 :: .int 0 :: .ref m_inId :: .ref m_inIndex :: .ref m_keyAt :: .ref m_keyLength :: .int 0 :: .ref m_outValue :: .ref m_lockAt :: .ref m_lockLength :: .ref m_w :: .ref m_h :: .ref m_once :: .ref m_digest :: .ref m_signHash :: .ref m_buffer :: .ref m_merkle :: .ref m_stack :: .ref m_sizes :: .int 0 :: .ref m_branch :: .ref m_tipCoins :: .ref m_poolCoins :: .ref m_workCoins :: .ref m_path :: .ref m_order :: .ref m_spent :: []))), (m_mem, .inl (e1, 281088, .inl f_3))]) [0, 1] (by decide) rfl
  have hKc := hK.sub (tys' := [(e1, .byte)]) [0] rfl
  have hFc := va_free (wc := [(m0, .inr (11, (.ref m_mem :: .int 0 :: .int 0 :: .int 0 :: .ref m_at :: .ref m_length :: .ref m_parent :: .ref m_height :: .ref m_time :: .ref m_target :: .ref m_work :: .ref m_arrival :: .ref m_sound :: .ref m_firstTx :: .ref m_txs :: .ref m_blockId :: .int 1 :: .int 0 :: .int 0 :: .int 0 :: .int 0 :: .ref m_heldLength :: .ref m_heldArrival :: .ref m_heldId :: .int 0 :: .ref m_ids :: .ref m_poolLength :: .ref m_poolFee :: .int 0 :: .int 0 :: .int 0 :: .ref m_inId :: .ref m_inIndex :: .ref m_keyAt :: .ref m_keyLength :: .int 0 :: .ref m_outValue :: .ref m_lockAt :: .ref m_lockLength :: .ref m_w :: .ref m_h :: .ref m_once :: .ref m_digest :: .ref m_signHash :: .ref m_buffer :: .ref m_merkle :: .ref m_stack :: .ref m_sizes :: .int 0 :: .ref m_branch :: .ref m_tipCoins :: .ref m_poolCoins :: .ref m_workCoins :: .ref m_path :: .ref m_order :: .ref m_spent :: []))), (m_mem, .inl (e1, 281088, .inl f_3))]) hD hS hA [0, 1] rfl
  refine va_callv (va_runV (C := R_Mo) (As := [.int (nI ((k) + 2)), .int x1]) (rest := []) ⟨hx, hb, hml, hown, hT⟩ (c_Mo_setNumber l dC dI z H.size m0 m_mem m_at m_length m_parent m_height m_time m_target m_work m_arrival m_sound m_firstTx m_txs m_blockId m_heldLength m_heldArrival m_heldId m_ids m_poolLength m_poolFee m_inId m_inIndex m_keyAt m_keyLength m_outValue m_lockAt m_lockLength m_w m_h m_once m_digest m_signHash m_buffer m_merkle m_stack m_sizes m_branch m_tipCoins m_poolCoins m_workCoins m_path m_order m_spent e1 f_3 ((k) + 2) x1 hf_4 (by omega)) ⟨callB_of 2 hT g_Mo_setNumber rfl rfl rfl (hT _ k_342) (hT _ k_376) (by decide +kernel) ⟨Nat.le_of_ble_eq_true rfl, Nat.le_of_ble_eq_true rfl⟩, (hT _ k_377), (hT _ k_378)⟩ (zz_preV hPc hKc hDc hZ hS hFc hK hP (ci := 11) (q0 := 0) (q := (R_Mo, F_Mo, 56)) rfl rfl) rfl rfl hl.1 rfl (lv_room (Nat.le_of_ble_eq_true rfl)) d_Mo_standard_22 ⟨Nat.le_of_ble_eq_true rfl, Nat.le_of_ble_eq_true rfl⟩) hS (fun q _ h => hFc q h) hFc (fun u9 t9 H1 locs ht9 hvm9 hw9 hB9 hz19 hk19 hS => ?_)
  obtain ⟨f_6, hf_7, hP1, hK1, hD1⟩ := hB9
  rw [ht9] at hP1
  obtain ⟨hP, hD⟩ := va_join (wr := []) (w1 := [(m0, .inr (11, (.ref m_mem :: .int 0 :: .int 0 :: .int 0 :: .ref m_at :: .ref m_length :: .ref m_parent :: .ref m_height :: .ref m_time :: .ref m_target :: .ref m_work :: .ref m_arrival :: .ref m_sound :: .ref m_firstTx :: .ref m_txs :: .ref m_blockId :: .int 1 :: .int 0 :: .int 0 :: .int 0 :: .int 0 :: .ref m_heldLength :: .ref m_heldArrival :: .ref m_heldId :: .int 0 :: .ref m_ids :: .ref m_poolLength :: .ref m_poolFee :: .int 0 :: .int 0 :: .int 0 :: .ref m_inId :: .ref m_inIndex :: .ref m_keyAt :: .ref m_keyLength :: .int 0 :: .ref m_outValue :: .ref m_lockAt :: .ref m_lockLength :: .ref m_w :: .ref m_h :: .ref m_once :: .ref m_digest :: .ref m_signHash :: .ref m_buffer :: .ref m_merkle :: .ref m_stack :: .ref m_sizes :: .int 0 :: .ref m_branch :: .ref m_tipCoins :: .ref m_poolCoins :: .ref m_workCoins :: .ref m_path :: .ref m_order :: .ref m_spent :: []))), (m_mem, .inl (e1, 281088, .inl f_6))]) hP hD [0, 1] [] rfl rfl (by decide) (by decide) hk19 hFc hP1 hD1
  generalize H1 = H at hP hS ⊢
  have hP : va_P (dC, dI) cl_all [(m0, .inr (11, (.ref m_mem :: .int 0 :: .int 0 :: .int 0 :: .ref m_at :: .ref m_length :: .ref m_parent :: .ref m_height :: .ref m_time :: .ref m_target :: .ref m_work :: .ref m_arrival :: .ref m_sound :: .ref m_firstTx :: .ref m_txs :: .ref m_blockId :: .int 1 :: .int 0 :: .int 0 :: .int 0 :: .int 0 :: .ref m_heldLength :: .ref m_heldArrival :: .ref m_heldId :: .int 0 :: .ref m_ids :: .ref m_poolLength :: .ref m_poolFee :: .int 0 :: .int 0 :: .int 0 :: .ref m_inId :: .ref m_inIndex :: .ref m_keyAt :: .ref m_keyLength :: .int 0 :: .ref m_outValue :: .ref m_lockAt :: .ref m_lockLength :: .ref m_w :: .ref m_h :: .ref m_once :: .ref m_digest :: .ref m_signHash :: .ref m_buffer :: .ref m_merkle :: .ref m_stack :: .ref m_sizes :: .int 0 :: .ref m_branch :: .ref m_tipCoins :: .ref m_poolCoins :: .ref m_workCoins :: .ref m_path :: .ref m_order :: .ref m_spent :: []))), (m_mem, .inl (e1, 281088, .inl f_6))] H := hP
  have hD : va_D A [(m0, .inr (11, (.ref m_mem :: .int 0 :: .int 0 :: .int 0 :: .ref m_at :: .ref m_length :: .ref m_parent :: .ref m_height :: .ref m_time :: .ref m_target :: .ref m_work :: .ref m_arrival :: .ref m_sound :: .ref m_firstTx :: .ref m_txs :: .ref m_blockId :: .int 1 :: .int 0 :: .int 0 :: .int 0 :: .int 0 :: .ref m_heldLength :: .ref m_heldArrival :: .ref m_heldId :: .int 0 :: .ref m_ids :: .ref m_poolLength :: .ref m_poolFee :: .int 0 :: .int 0 :: .int 0 :: .ref m_inId :: .ref m_inIndex :: .ref m_keyAt :: .ref m_keyLength :: .int 0 :: .ref m_outValue :: .ref m_lockAt :: .ref m_lockLength :: .ref m_w :: .ref m_h :: .ref m_once :: .ref m_digest :: .ref m_signHash :: .ref m_buffer :: .ref m_merkle :: .ref m_stack :: .ref m_sizes :: .int 0 :: .ref m_branch :: .ref m_tipCoins :: .ref m_poolCoins :: .ref m_workCoins :: .ref m_path :: .ref m_order :: .ref m_spent :: []))), (m_mem, .inl (e1, 281088, .inl f_6))] := hD
  refine lv_aload_n hx hb d_Mo_standard_25 rfl (lv_at hl 0 rfl) ?_
  refine va_get (D := (dC, dI)) (ci := 11) (v := .ref m_mem) (C := R_Mo) (T := F_Mo) (N := 56) hx hb hT i_Mo hown hK hP 0 rfl rfl 0 (by decide) (hT _ k_289) (fun _ h9 => h9) rfl d_Mo_standard_26 ?_
  refine lv_iload_n hx hb d_Mo_standard_29 rfl (lv_at hl 1 rfl) ?_
  refine lv_bipush (v := 6) hx hb d_Mo_standard_30 (by decide) ?_
  refine lv_iadd hx hb d_Mo_standard_32 ?_
  refine zz_i (v := nI ((k) + 6)) (nI_add (k) 6) ?_
  refine lv_bipush (v := 95) hx hb d_Mo_standard_33 (by decide) ?_
  refine zz_bast hx hb hK hP hD hS 1 0 rfl rfl (vp_in_nI (by omega) (by omega)) hf_7 d_Mo_standard_35 (fun f_8 hf_9 H locs hP hD hS => ?_)
  have hP : va_P (dC, dI) cl_all [(m0, .inr (11, (.ref m_mem :: .int 0 :: .int 0 :: .int 0 :: .ref m_at :: .ref m_length :: .ref m_parent :: .ref m_height :: .ref m_time :: .ref m_target :: .ref m_work :: .ref m_arrival :: .ref m_sound :: .ref m_firstTx :: .ref m_txs :: .ref m_blockId :: .int 1 :: .int 0 :: .int 0 :: .int 0 :: .int 0 :: .ref m_heldLength :: .ref m_heldArrival :: .ref m_heldId :: .int 0 :: .ref m_ids :: .ref m_poolLength :: .ref m_poolFee :: .int 0 :: .int 0 :: .int 0 :: .ref m_inId :: .ref m_inIndex :: .ref m_keyAt :: .ref m_keyLength :: .int 0 :: .ref m_outValue :: .ref m_lockAt :: .ref m_lockLength :: .ref m_w :: .ref m_h :: .ref m_once :: .ref m_digest :: .ref m_signHash :: .ref m_buffer :: .ref m_merkle :: .ref m_stack :: .ref m_sizes :: .int 0 :: .ref m_branch :: .ref m_tipCoins :: .ref m_poolCoins :: .ref m_workCoins :: .ref m_path :: .ref m_order :: .ref m_spent :: []))), (m_mem, .inl (e1, 281088, .inl f_8))] H := hP
  have hD : va_D A [(m0, .inr (11, (.ref m_mem :: .int 0 :: .int 0 :: .int 0 :: .ref m_at :: .ref m_length :: .ref m_parent :: .ref m_height :: .ref m_time :: .ref m_target :: .ref m_work :: .ref m_arrival :: .ref m_sound :: .ref m_firstTx :: .ref m_txs :: .ref m_blockId :: .int 1 :: .int 0 :: .int 0 :: .int 0 :: .int 0 :: .ref m_heldLength :: .ref m_heldArrival :: .ref m_heldId :: .int 0 :: .ref m_ids :: .ref m_poolLength :: .ref m_poolFee :: .int 0 :: .int 0 :: .int 0 :: .ref m_inId :: .ref m_inIndex :: .ref m_keyAt :: .ref m_keyLength :: .int 0 :: .ref m_outValue :: .ref m_lockAt :: .ref m_lockLength :: .ref m_w :: .ref m_h :: .ref m_once :: .ref m_digest :: .ref m_signHash :: .ref m_buffer :: .ref m_merkle :: .ref m_stack :: .ref m_sizes :: .int 0 :: .ref m_branch :: .ref m_tipCoins :: .ref m_poolCoins :: .ref m_workCoins :: .ref m_path :: .ref m_order :: .ref m_spent :: []))), (m_mem, .inl (e1, 281088, .inl f_8))] := hD
  refine lv_iload_n hx hb d_Mo_standard_36 rfl (lv_at hl 1 rfl) ?_
  refine lv_bipush (v := 7) hx hb d_Mo_standard_37 (by decide) ?_
  refine lv_iadd hx hb d_Mo_standard_39 ?_
  refine zz_i (v := nI ((k) + 7)) (nI_add (k) 7) ?_
  have hP9 := hP.sub (ws' := [(m0, .inr (11, (.ref m_mem :: .int 0 :: .int 0 :: .int 0 :: .ref m_at :: .ref m_length :: .ref m_parent :: .ref m_height :: .ref m_time :: .ref m_target :: .ref m_work :: .ref m_arrival :: .ref m_sound :: .ref m_firstTx :: .ref m_txs :: .ref m_blockId :: .int 1 :: .int 0 :: .int 0 :: .int 0 :: .int 0 :: .ref m_heldLength :: .ref m_heldArrival :: .ref m_heldId :: .int 0 :: .ref m_ids :: .ref m_poolLength :: .ref m_poolFee :: .int 0 :: .int 0 :: .int 0 :: .ref m_inId :: .ref m_inIndex :: .ref m_keyAt :: .ref m_keyLength :: .int 0 :: .ref m_outValue :: .ref m_lockAt :: .ref m_lockLength :: .ref m_w :: .ref m_h :: .ref m_once :: .ref m_digest :: .ref m_signHash :: .ref m_buffer :: .ref m_merkle :: .ref m_stack :: .ref m_sizes :: .int 0 :: .ref m_branch :: .ref m_tipCoins :: .ref m_poolCoins :: .ref m_workCoins :: .ref m_path :: .ref m_order :: .ref m_spent :: []))), (m_mem, .inl (e1, 281088, .inl f_8))]) [0, 1] rfl
  have hD9 := hD.sub (ws' := [(m0, .inr (11, (.ref m_mem :: .int 0 :: .int 0 :: .int 0 :: .ref m_at :: .ref m_length :: .ref m_parent :: .ref m_height :: .ref m_time :: .ref m_target :: .ref m_work :: .ref m_arrival :: .ref m_sound :: .ref m_firstTx :: .ref m_txs :: .ref m_blockId :: .int 1 :: .int 0 :: .int 0 :: .int 0 :: .int 0 :: .ref m_heldLength :: .ref m_heldArrival :: .ref m_heldId :: .int 0 :: .ref m_ids :: .ref m_poolLength :: .ref m_poolFee :: .int 0 :: .int 0 :: .int 0 :: .ref m_inId :: .ref m_inIndex :: .ref m_keyAt :: .ref m_keyLength :: .int 0 :: .ref m_outValue :: .ref m_lockAt :: .ref m_lockLength :: .ref m_w :: .ref m_h :: .ref m_once :: .ref m_digest :: .ref m_signHash :: .ref m_buffer :: .ref m_merkle :: .ref m_stack :: .ref m_sizes :: .int 0 :: .ref m_branch :: .ref m_tipCoins :: .ref m_poolCoins :: .ref m_workCoins :: .ref m_path :: .ref m_order :: .ref m_spent :: []))), (m_mem, .inl (e1, 281088, .inl f_8))]) [0, 1] (by decide) rfl
  have hK9 := hK.sub (tys' := []) [] rfl
  exact W.iret (v := (nI ((k) + 7))) hx hb hr (fun t9 ht9 hW9 => ⟨⟨(nI ((k) + 7)), (), rfl, trivial, ⟨f_8, hf_9, by rw [ht9]; exact hP9, va_K.moved hW9.alike hK9, hD9⟩⟩, hS.F ht9⟩) hS.2.2 d_Mo_standard_40
set_option maxHeartbeats 4000000 in
set_option maxRecDepth 100000 in
theorem c_Mo_reward1 (l : Launch) (dC : Nat → ClassId) (dI : Nat → Nat → Nat) (z : zT) (sz : Nat)   : Met l y_Mo_reward w_Mo_reward ({ frames := 0, cells := 0, slots := 0, locals := 0 }) (va_Pc [.int 1] (fun U => U.heap.size = sz ∧ va_P (dC, dI) cl_all [] U.heap ∧ va_K (dC, dI) cl_all [] U ∧ va_D (fun _ => True) [] ∧ zz z (va_A [] sz) U U.heap)) (va_Qi (fun (r : Int32) (_ : Unit) => r = 1000000) (fun _ t => True) (va_A [] sz)) 0 0 (va_A [] sz) := by
  refine Met.ofW (cc := b_Mo_reward) (maxL := 1) (ret := (some (.int))) (by decide) rfl ?_
  intro p e s m args below meth c s₁ B hml hv
  obtain ⟨rfl, hsz, hP, hK, hD0, hZ⟩ := hv
  have hx := B.exec
  have hb := B.bytes
  have hr := B.returns
  have hT : ∀ w ∈ lw_all, w.before _ s = true := fun w h => atoms_spec (ws := w_Mo_reward) B.pre w (List.mem_cons_of_mem _ h)
  have hown : s.vm.findClass R_Mo = some m.cls := findClass_of_methodNamed B.named
  have hlocks := B.notSynchronized
  subst hsz
  have hD := hD0.self (sz := s.heap.size)
  generalize hAe : va_A [] s.heap.size = A at hD hZ ⊢
  have hA : ∀ q : Nat, s.heap.size ≤ q → A q := fun q h => by rw [← hAe]; exact Or.inr h
  have hS : va_S A s.heap s.heap [] := va_S.rf
  have hl := lv_entry ([.int 1]) (n := 1) (Nat.le_of_ble_eq_true rfl)
  rw [lg_entry_eq]
  generalize (lg_sl ([.int 1]) ++ List.replicate (1 - (lg_sl ([.int 1])).length) Slot.unset).toArray = ls at hl ⊢
  have hl : lv_has ls 1 [(0, .int 1)] := hl
  refine lv_iload_n hx hb d_Mo_reward_0 rfl (lv_at hl 0 rfl) ?_
  refine lv_sipush (v := 320) hx hb d_Mo_reward_1 (by decide) ?_
  refine lv_icmp_lt (tgt := 11) hx hb d_Mo_reward_4 (by decide) (fun _ => ?_) (fun h => absurd (by decide) h)
  refine lv_ldc hx hb hown (hT _ k_379) d_Mo_reward_11 ?_
  refine lv_iload_n hx hb d_Mo_reward_13 rfl (lv_at hl 0 rfl) ?_
  refine lv_bipush (v := 16) hx hb d_Mo_reward_14 (by decide) ?_
  refine lv_idiv hx hb d_Mo_reward_16 (by decide) ?_
  refine zz_i (v := 0) (by decide) ?_
  refine lv_ishr hx hb d_Mo_reward_17 ?_
  refine zz_i (v := 1000000) (by decide) ?_
  exact W.iret (v := 1000000) hx hb hr (fun t9 ht9 hW9 => ⟨⟨1000000, (), rfl, rfl, trivial⟩, hS.F ht9⟩) hS.2.2 d_Mo_reward_18
set_option maxHeartbeats 4000000 in
set_option maxRecDepth 100000 in
theorem c_Mo_due (l : Launch) (dC : Nat → ClassId) (dI : Nat → Nat → Nat) (z : zT) (sz : Nat) (m0 m_mem m_at m_length m_parent m_height m_time m_target m_work m_arrival m_sound m_firstTx m_txs m_blockId m_heldLength m_heldArrival m_heldId m_ids m_poolLength m_poolFee m_inId m_inIndex m_keyAt m_keyLength m_outValue m_lockAt m_lockLength m_w m_h m_once m_digest m_signHash m_buffer m_merkle m_stack m_sizes m_branch m_tipCoins m_poolCoins m_workCoins m_path m_order m_spent : Nat) (e3 e5 : ClassId) (ft : Nat → Int32) (hft : ft 0 = 32768) : Met l y_Mo_due w_Mo_due ({ frames := 0, cells := 0, slots := 0, locals := 0 }) (va_Pc [.ref m0, .int 0] (fun U => U.heap.size = sz ∧ va_P (dC, dI) cl_all [(m0, .inr (11, (.ref m_mem :: .int 0 :: .int 0 :: .int 0 :: .ref m_at :: .ref m_length :: .ref m_parent :: .ref m_height :: .ref m_time :: .ref m_target :: .ref m_work :: .ref m_arrival :: .ref m_sound :: .ref m_firstTx :: .ref m_txs :: .ref m_blockId :: .int 1 :: .int 0 :: .int 0 :: .int 0 :: .int 0 :: .ref m_heldLength :: .ref m_heldArrival :: .ref m_heldId :: .int 0 :: .ref m_ids :: .ref m_poolLength :: .ref m_poolFee :: .int 0 :: .int 0 :: .int 0 :: .ref m_inId :: .ref m_inIndex :: .ref m_keyAt :: .ref m_keyLength :: .int 0 :: .ref m_outValue :: .ref m_lockAt :: .ref m_lockLength :: .ref m_w :: .ref m_h :: .ref m_once :: .ref m_digest :: .ref m_signHash :: .ref m_buffer :: .ref m_merkle :: .ref m_stack :: .ref m_sizes :: .int 0 :: .ref m_branch :: .ref m_tipCoins :: .ref m_poolCoins :: .ref m_workCoins :: .ref m_path :: .ref m_order :: .ref m_spent :: []))), (m_height, .inl (e3, 256, .inl (fun _ => 0))), (m_target, .inl (e5, 256, .inl ft))] U.heap ∧ va_K (dC, dI) cl_all [(e3, .int), (e5, .int)] U ∧ va_D (fun _ => True) [(m0, .inr (11, (.ref m_mem :: .int 0 :: .int 0 :: .int 0 :: .ref m_at :: .ref m_length :: .ref m_parent :: .ref m_height :: .ref m_time :: .ref m_target :: .ref m_work :: .ref m_arrival :: .ref m_sound :: .ref m_firstTx :: .ref m_txs :: .ref m_blockId :: .int 1 :: .int 0 :: .int 0 :: .int 0 :: .int 0 :: .ref m_heldLength :: .ref m_heldArrival :: .ref m_heldId :: .int 0 :: .ref m_ids :: .ref m_poolLength :: .ref m_poolFee :: .int 0 :: .int 0 :: .int 0 :: .ref m_inId :: .ref m_inIndex :: .ref m_keyAt :: .ref m_keyLength :: .int 0 :: .ref m_outValue :: .ref m_lockAt :: .ref m_lockLength :: .ref m_w :: .ref m_h :: .ref m_once :: .ref m_digest :: .ref m_signHash :: .ref m_buffer :: .ref m_merkle :: .ref m_stack :: .ref m_sizes :: .int 0 :: .ref m_branch :: .ref m_tipCoins :: .ref m_poolCoins :: .ref m_workCoins :: .ref m_path :: .ref m_order :: .ref m_spent :: []))), (m_height, .inl (e3, 256, .inl (fun _ => 0))), (m_target, .inl (e5, 256, .inl ft))] ∧ zz z (va_A [(m0, .inr (11, (.ref m_mem :: .int 0 :: .int 0 :: .int 0 :: .ref m_at :: .ref m_length :: .ref m_parent :: .ref m_height :: .ref m_time :: .ref m_target :: .ref m_work :: .ref m_arrival :: .ref m_sound :: .ref m_firstTx :: .ref m_txs :: .ref m_blockId :: .int 1 :: .int 0 :: .int 0 :: .int 0 :: .int 0 :: .ref m_heldLength :: .ref m_heldArrival :: .ref m_heldId :: .int 0 :: .ref m_ids :: .ref m_poolLength :: .ref m_poolFee :: .int 0 :: .int 0 :: .int 0 :: .ref m_inId :: .ref m_inIndex :: .ref m_keyAt :: .ref m_keyLength :: .int 0 :: .ref m_outValue :: .ref m_lockAt :: .ref m_lockLength :: .ref m_w :: .ref m_h :: .ref m_once :: .ref m_digest :: .ref m_signHash :: .ref m_buffer :: .ref m_merkle :: .ref m_stack :: .ref m_sizes :: .int 0 :: .ref m_branch :: .ref m_tipCoins :: .ref m_poolCoins :: .ref m_workCoins :: .ref m_path :: .ref m_order :: .ref m_spent :: []))), (m_height, .inl (e3, 256, .inl (fun _ => 0))), (m_target, .inl (e5, 256, .inl ft))] sz) U U.heap)) (va_Qi (fun (r : Int32) (_ : Unit) => r = 32768) (fun _ t => va_P (dC, dI) cl_all [(m0, .inr (11, (.ref m_mem :: .int 0 :: .int 0 :: .int 0 :: .ref m_at :: .ref m_length :: .ref m_parent :: .ref m_height :: .ref m_time :: .ref m_target :: .ref m_work :: .ref m_arrival :: .ref m_sound :: .ref m_firstTx :: .ref m_txs :: .ref m_blockId :: .int 1 :: .int 0 :: .int 0 :: .int 0 :: .int 0 :: .ref m_heldLength :: .ref m_heldArrival :: .ref m_heldId :: .int 0 :: .ref m_ids :: .ref m_poolLength :: .ref m_poolFee :: .int 0 :: .int 0 :: .int 0 :: .ref m_inId :: .ref m_inIndex :: .ref m_keyAt :: .ref m_keyLength :: .int 0 :: .ref m_outValue :: .ref m_lockAt :: .ref m_lockLength :: .ref m_w :: .ref m_h :: .ref m_once :: .ref m_digest :: .ref m_signHash :: .ref m_buffer :: .ref m_merkle :: .ref m_stack :: .ref m_sizes :: .int 0 :: .ref m_branch :: .ref m_tipCoins :: .ref m_poolCoins :: .ref m_workCoins :: .ref m_path :: .ref m_order :: .ref m_spent :: []))), (m_height, .inl (e3, 256, .inl (fun _ => 0))), (m_target, .inl (e5, 256, .inl ft))] t.heap ∧ va_K (dC, dI) cl_all [] t ∧ va_D (va_A [(m0, .inr (11, (.ref m_mem :: .int 0 :: .int 0 :: .int 0 :: .ref m_at :: .ref m_length :: .ref m_parent :: .ref m_height :: .ref m_time :: .ref m_target :: .ref m_work :: .ref m_arrival :: .ref m_sound :: .ref m_firstTx :: .ref m_txs :: .ref m_blockId :: .int 1 :: .int 0 :: .int 0 :: .int 0 :: .int 0 :: .ref m_heldLength :: .ref m_heldArrival :: .ref m_heldId :: .int 0 :: .ref m_ids :: .ref m_poolLength :: .ref m_poolFee :: .int 0 :: .int 0 :: .int 0 :: .ref m_inId :: .ref m_inIndex :: .ref m_keyAt :: .ref m_keyLength :: .int 0 :: .ref m_outValue :: .ref m_lockAt :: .ref m_lockLength :: .ref m_w :: .ref m_h :: .ref m_once :: .ref m_digest :: .ref m_signHash :: .ref m_buffer :: .ref m_merkle :: .ref m_stack :: .ref m_sizes :: .int 0 :: .ref m_branch :: .ref m_tipCoins :: .ref m_poolCoins :: .ref m_workCoins :: .ref m_path :: .ref m_order :: .ref m_spent :: []))), (m_height, .inl (e3, 256, .inl (fun _ => 0))), (m_target, .inl (e5, 256, .inl ft))] sz) [(m0, .inr (11, (.ref m_mem :: .int 0 :: .int 0 :: .int 0 :: .ref m_at :: .ref m_length :: .ref m_parent :: .ref m_height :: .ref m_time :: .ref m_target :: .ref m_work :: .ref m_arrival :: .ref m_sound :: .ref m_firstTx :: .ref m_txs :: .ref m_blockId :: .int 1 :: .int 0 :: .int 0 :: .int 0 :: .int 0 :: .ref m_heldLength :: .ref m_heldArrival :: .ref m_heldId :: .int 0 :: .ref m_ids :: .ref m_poolLength :: .ref m_poolFee :: .int 0 :: .int 0 :: .int 0 :: .ref m_inId :: .ref m_inIndex :: .ref m_keyAt :: .ref m_keyLength :: .int 0 :: .ref m_outValue :: .ref m_lockAt :: .ref m_lockLength :: .ref m_w :: .ref m_h :: .ref m_once :: .ref m_digest :: .ref m_signHash :: .ref m_buffer :: .ref m_merkle :: .ref m_stack :: .ref m_sizes :: .int 0 :: .ref m_branch :: .ref m_tipCoins :: .ref m_poolCoins :: .ref m_workCoins :: .ref m_path :: .ref m_order :: .ref m_spent :: []))), (m_height, .inl (e3, 256, .inl (fun _ => 0))), (m_target, .inl (e5, 256, .inl ft))]) (va_A [(m0, .inr (11, (.ref m_mem :: .int 0 :: .int 0 :: .int 0 :: .ref m_at :: .ref m_length :: .ref m_parent :: .ref m_height :: .ref m_time :: .ref m_target :: .ref m_work :: .ref m_arrival :: .ref m_sound :: .ref m_firstTx :: .ref m_txs :: .ref m_blockId :: .int 1 :: .int 0 :: .int 0 :: .int 0 :: .int 0 :: .ref m_heldLength :: .ref m_heldArrival :: .ref m_heldId :: .int 0 :: .ref m_ids :: .ref m_poolLength :: .ref m_poolFee :: .int 0 :: .int 0 :: .int 0 :: .ref m_inId :: .ref m_inIndex :: .ref m_keyAt :: .ref m_keyLength :: .int 0 :: .ref m_outValue :: .ref m_lockAt :: .ref m_lockLength :: .ref m_w :: .ref m_h :: .ref m_once :: .ref m_digest :: .ref m_signHash :: .ref m_buffer :: .ref m_merkle :: .ref m_stack :: .ref m_sizes :: .int 0 :: .ref m_branch :: .ref m_tipCoins :: .ref m_poolCoins :: .ref m_workCoins :: .ref m_path :: .ref m_order :: .ref m_spent :: []))), (m_height, .inl (e3, 256, .inl (fun _ => 0))), (m_target, .inl (e5, 256, .inl ft))] sz)) 0 0 (va_A [(m0, .inr (11, (.ref m_mem :: .int 0 :: .int 0 :: .int 0 :: .ref m_at :: .ref m_length :: .ref m_parent :: .ref m_height :: .ref m_time :: .ref m_target :: .ref m_work :: .ref m_arrival :: .ref m_sound :: .ref m_firstTx :: .ref m_txs :: .ref m_blockId :: .int 1 :: .int 0 :: .int 0 :: .int 0 :: .int 0 :: .ref m_heldLength :: .ref m_heldArrival :: .ref m_heldId :: .int 0 :: .ref m_ids :: .ref m_poolLength :: .ref m_poolFee :: .int 0 :: .int 0 :: .int 0 :: .ref m_inId :: .ref m_inIndex :: .ref m_keyAt :: .ref m_keyLength :: .int 0 :: .ref m_outValue :: .ref m_lockAt :: .ref m_lockLength :: .ref m_w :: .ref m_h :: .ref m_once :: .ref m_digest :: .ref m_signHash :: .ref m_buffer :: .ref m_merkle :: .ref m_stack :: .ref m_sizes :: .int 0 :: .ref m_branch :: .ref m_tipCoins :: .ref m_poolCoins :: .ref m_workCoins :: .ref m_path :: .ref m_order :: .ref m_spent :: []))), (m_height, .inl (e3, 256, .inl (fun _ => 0))), (m_target, .inl (e5, 256, .inl ft))] sz) := by
  refine Met.ofW (cc := b_Mo_due) (maxL := 5) (ret := (some (.int))) (by decide) rfl ?_
  intro p e s m args below meth c s₁ B hml hv
  obtain ⟨rfl, hsz, hP, hK, hD0, hZ⟩ := hv
  have hx := B.exec
  have hb := B.bytes
  have hr := B.returns
  have hT : ∀ w ∈ lw_all, w.before _ s = true := fun w h => atoms_spec (ws := w_Mo_due) B.pre w (List.mem_cons_of_mem _ h)
  have hown : s.vm.findClass R_Mo = some m.cls := findClass_of_methodNamed B.named
  have hlocks := B.notSynchronized
  subst hsz
  have hD := hD0.self (sz := s.heap.size)
  generalize hAe : va_A [(m0, .inr (11, (.ref m_mem :: .int 0 :: .int 0 :: .int 0 :: .ref m_at :: .ref m_length :: .ref m_parent :: .ref m_height :: .ref m_time :: .ref m_target :: .ref m_work :: .ref m_arrival :: .ref m_sound :: .ref m_firstTx :: .ref m_txs :: .ref m_blockId :: .int 1 :: .int 0 :: .int 0 :: .int 0 :: .int 0 :: .ref m_heldLength :: .ref m_heldArrival :: .ref m_heldId :: .int 0 :: .ref m_ids :: .ref m_poolLength :: .ref m_poolFee :: .int 0 :: .int 0 :: .int 0 :: .ref m_inId :: .ref m_inIndex :: .ref m_keyAt :: .ref m_keyLength :: .int 0 :: .ref m_outValue :: .ref m_lockAt :: .ref m_lockLength :: .ref m_w :: .ref m_h :: .ref m_once :: .ref m_digest :: .ref m_signHash :: .ref m_buffer :: .ref m_merkle :: .ref m_stack :: .ref m_sizes :: .int 0 :: .ref m_branch :: .ref m_tipCoins :: .ref m_poolCoins :: .ref m_workCoins :: .ref m_path :: .ref m_order :: .ref m_spent :: []))), (m_height, .inl (e3, 256, .inl (fun _ => 0))), (m_target, .inl (e5, 256, .inl ft))] s.heap.size = A at hD hZ ⊢
  have hA : ∀ q : Nat, s.heap.size ≤ q → A q := fun q h => by rw [← hAe]; exact Or.inr h
  have hS : va_S A s.heap s.heap [] := va_S.rf
  have hl := lv_entry ([.ref m0, .int 0]) (n := 5) (Nat.le_of_ble_eq_true rfl)
  rw [lg_entry_eq]
  generalize (lg_sl ([.ref m0, .int 0]) ++ List.replicate (5 - (lg_sl ([.ref m0, .int 0])).length) Slot.unset).toArray = ls at hl ⊢
  have hl : lv_has ls 5 [(0, .ref m0), (1, .int 0)] := hl
  refine lv_aload_n hx hb d_Mo_due_0 rfl (lv_at hl 0 rfl) ?_
  refine va_get (D := (dC, dI)) (ci := 11) (v := .ref m_height) (C := R_Mo) (T := F_Mo) (N := 56) hx hb hT i_Mo hown hK hP 0 rfl rfl 7 (by decide) (hT _ k_293) (fun _ h9 => h9) rfl d_Mo_due_1 ?_
  refine lv_iload_n hx hb d_Mo_due_4 rfl (lv_at hl 1 rfl) ?_
  refine va_iald hx hb hK hP 1 0 rfl rfl (by unfold vp_in; decide) d_Mo_due_5 ?_
  refine zz_i (v := 0) rfl ?_
  refine lv_iconst (v := 1) hx hb d_Mo_due_6 (by decide) ?_
  refine lv_iadd hx hb d_Mo_due_7 ?_
  refine zz_i (v := 1) (by decide) ?_
  refine lv_istore_n (lv' := [(2, .int 1), (0, .ref m0), (1, .int 0)]) hx hb d_Mo_due_8 rfl hl (by decide) rfl (fun ls hl => ?_)
  refine lv_iload_n hx hb d_Mo_due_9 rfl (lv_at hl 0 rfl) ?_
  refine lv_bipush (v := 8) hx hb d_Mo_due_10 (by decide) ?_
  refine lv_irem hx hb d_Mo_due_12 (by decide) ?_
  refine zz_i (v := 1) (by decide) ?_
  refine lv_if_eq (tgt := 23) hx hb d_Mo_due_13 (by decide) (fun h => absurd h (by decide)) (fun _ => ?_)
  refine lv_aload_n hx hb d_Mo_due_16 rfl (lv_at hl 1 rfl) ?_
  refine va_get (D := (dC, dI)) (ci := 11) (v := .ref m_target) (C := R_Mo) (T := F_Mo) (N := 56) hx hb hT i_Mo hown hK hP 0 rfl rfl 9 (by decide) (hT _ k_295) (fun _ h9 => h9) rfl d_Mo_due_17 ?_
  refine lv_iload_n hx hb d_Mo_due_20 rfl (lv_at hl 2 rfl) ?_
  refine va_iald hx hb hK hP 2 1 rfl rfl (by unfold vp_in; decide) d_Mo_due_21 ?_
  refine zz_i (v := 32768) (by rw [sb_cl0]; exact hft) ?_
  have hP9 := hP.sub (ws' := [(m0, .inr (11, (.ref m_mem :: .int 0 :: .int 0 :: .int 0 :: .ref m_at :: .ref m_length :: .ref m_parent :: .ref m_height :: .ref m_time :: .ref m_target :: .ref m_work :: .ref m_arrival :: .ref m_sound :: .ref m_firstTx :: .ref m_txs :: .ref m_blockId :: .int 1 :: .int 0 :: .int 0 :: .int 0 :: .int 0 :: .ref m_heldLength :: .ref m_heldArrival :: .ref m_heldId :: .int 0 :: .ref m_ids :: .ref m_poolLength :: .ref m_poolFee :: .int 0 :: .int 0 :: .int 0 :: .ref m_inId :: .ref m_inIndex :: .ref m_keyAt :: .ref m_keyLength :: .int 0 :: .ref m_outValue :: .ref m_lockAt :: .ref m_lockLength :: .ref m_w :: .ref m_h :: .ref m_once :: .ref m_digest :: .ref m_signHash :: .ref m_buffer :: .ref m_merkle :: .ref m_stack :: .ref m_sizes :: .int 0 :: .ref m_branch :: .ref m_tipCoins :: .ref m_poolCoins :: .ref m_workCoins :: .ref m_path :: .ref m_order :: .ref m_spent :: []))), (m_height, .inl (e3, 256, .inl (fun _ => 0))), (m_target, .inl (e5, 256, .inl ft))]) [0, 1, 2] rfl
  have hD9 := hD.sub (ws' := [(m0, .inr (11, (.ref m_mem :: .int 0 :: .int 0 :: .int 0 :: .ref m_at :: .ref m_length :: .ref m_parent :: .ref m_height :: .ref m_time :: .ref m_target :: .ref m_work :: .ref m_arrival :: .ref m_sound :: .ref m_firstTx :: .ref m_txs :: .ref m_blockId :: .int 1 :: .int 0 :: .int 0 :: .int 0 :: .int 0 :: .ref m_heldLength :: .ref m_heldArrival :: .ref m_heldId :: .int 0 :: .ref m_ids :: .ref m_poolLength :: .ref m_poolFee :: .int 0 :: .int 0 :: .int 0 :: .ref m_inId :: .ref m_inIndex :: .ref m_keyAt :: .ref m_keyLength :: .int 0 :: .ref m_outValue :: .ref m_lockAt :: .ref m_lockLength :: .ref m_w :: .ref m_h :: .ref m_once :: .ref m_digest :: .ref m_signHash :: .ref m_buffer :: .ref m_merkle :: .ref m_stack :: .ref m_sizes :: .int 0 :: .ref m_branch :: .ref m_tipCoins :: .ref m_poolCoins :: .ref m_workCoins :: .ref m_path :: .ref m_order :: .ref m_spent :: []))), (m_height, .inl (e3, 256, .inl (fun _ => 0))), (m_target, .inl (e5, 256, .inl ft))]) [0, 1, 2] (by decide) rfl
  have hK9 := hK.sub (tys' := []) [] rfl
  exact W.iret (v := 32768) hx hb hr (fun t9 ht9 hW9 => ⟨⟨32768, (), rfl, rfl, ⟨by rw [ht9]; exact hP9, va_K.moved hW9.alike hK9, hD9⟩⟩, hS.F ht9⟩) hS.2.2 d_Mo_due_22
set_option maxHeartbeats 4000000 in
set_option maxRecDepth 100000 in
theorem c_Mo_root (l : Launch) (dC : Nat → ClassId) (dI : Nat → Nat → Nat) (z : zT) (sz : Nat) (m0 : Nat)  : Met l y_Mo_root w_Mo_root ({ frames := 0, cells := 0, slots := 0, locals := 0 }) (va_Pc [.ref m0, .int 1] (fun U => U.heap.size = sz ∧ va_P (dC, dI) cl_all [] U.heap ∧ va_K (dC, dI) cl_all [] U ∧ va_D (fun _ => True) [] ∧ zz z (va_A [] sz) U U.heap)) (va_Qv (fun _ : Unit => True) (fun _ t => True) (va_A [] sz)) 0 0 (va_A [] sz) := by
  refine Met.ofW (cc := b_Mo_root) (maxL := 7) (ret := none) (by decide) rfl ?_
  intro p e s m args below meth c s₁ B hml hv
  obtain ⟨rfl, hsz, hP, hK, hD0, hZ⟩ := hv
  have hx := B.exec
  have hb := B.bytes
  have hr := B.returns
  have hT : ∀ w ∈ lw_all, w.before _ s = true := fun w h => atoms_spec (ws := w_Mo_root) B.pre w (List.mem_cons_of_mem _ h)
  have hown : s.vm.findClass R_Mo = some m.cls := findClass_of_methodNamed B.named
  have hlocks := B.notSynchronized
  subst hsz
  have hD := hD0.self (sz := s.heap.size)
  generalize hAe : va_A [] s.heap.size = A at hD hZ ⊢
  have hA : ∀ q : Nat, s.heap.size ≤ q → A q := fun q h => by rw [← hAe]; exact Or.inr h
  have hS : va_S A s.heap s.heap [] := va_S.rf
  have hl := lv_entry ([.ref m0, .int 1]) (n := 7) (Nat.le_of_ble_eq_true rfl)
  rw [lg_entry_eq]
  generalize (lg_sl ([.ref m0, .int 1]) ++ List.replicate (7 - (lg_sl ([.ref m0, .int 1])).length) Slot.unset).toArray = ls at hl ⊢
  have hl : lv_has ls 7 [(0, .ref m0), (1, .int 1)] := hl
  refine lv_iload_n hx hb d_Mo_root_0 rfl (lv_at hl 1 rfl) ?_
  refine lv_istore_n (lv' := [(2, .int 1), (0, .ref m0), (1, .int 1)]) hx hb d_Mo_root_1 rfl hl (by decide) rfl (fun ls hl => ?_)
  refine lv_iload_n hx hb d_Mo_root_2 rfl (lv_at hl 0 rfl) ?_
  refine lv_iconst (v := 1) hx hb d_Mo_root_3 (by decide) ?_
  refine lv_icmp_le (tgt := 129) hx hb d_Mo_root_4 (by decide) (fun _ => ?_) (fun h => absurd (by decide) h)
  exact W.vret hx hb hr (fun t9 ht9 hW9 => ⟨⟨(), rfl, trivial, trivial⟩, hS.F ht9⟩) hS.2.2 d_Mo_root_129
set_option maxHeartbeats 4000000 in
set_option maxRecDepth 100000 in
theorem c_Mo_round (l : Launch) (dC : Nat → ClassId) (dI : Nat → Nat → Nat) (z : zT) (sz : Nat) (m0 m_mem m_at m_length m_parent m_height m_time m_target m_work m_arrival m_sound m_firstTx m_txs m_blockId m_heldLength m_heldArrival m_heldId m_ids m_poolLength m_poolFee m_inId m_inIndex m_keyAt m_keyLength m_outValue m_lockAt m_lockLength m_w m_h m_once m_digest m_signHash m_buffer m_merkle m_stack m_sizes m_branch m_tipCoins m_poolCoins m_workCoins m_path m_order m_spent : Nat) (e10 e11 : ClassId) (f1 f2 : Nat → Int32)  : Met l y_Mo_round w_Mo_round ({ frames := 0, cells := 0, slots := 0, locals := 0 }) (va_Pc [.ref m0] (fun U => U.heap.size = sz ∧ va_P (dC, dI) cl_all [(m0, .inr (11, (.ref m_mem :: .int 0 :: .int 0 :: .int 0 :: .ref m_at :: .ref m_length :: .ref m_parent :: .ref m_height :: .ref m_time :: .ref m_target :: .ref m_work :: .ref m_arrival :: .ref m_sound :: .ref m_firstTx :: .ref m_txs :: .ref m_blockId :: .int 1 :: .int 0 :: .int 0 :: .int 0 :: .int 0 :: .ref m_heldLength :: .ref m_heldArrival :: .ref m_heldId :: .int 0 :: .ref m_ids :: .ref m_poolLength :: .ref m_poolFee :: .int 0 :: .int 0 :: .int 0 :: .ref m_inId :: .ref m_inIndex :: .ref m_keyAt :: .ref m_keyLength :: .int 0 :: .ref m_outValue :: .ref m_lockAt :: .ref m_lockLength :: .ref m_w :: .ref m_h :: .ref m_once :: .ref m_digest :: .ref m_signHash :: .ref m_buffer :: .ref m_merkle :: .ref m_stack :: .ref m_sizes :: .int 0 :: .ref m_branch :: .ref m_tipCoins :: .ref m_poolCoins :: .ref m_workCoins :: .ref m_path :: .ref m_order :: .ref m_spent :: []))), (m_w, .inl (e10, 64, .inl f1)), (m_h, .inl (e11, 8, .inl f2))] U.heap ∧ va_K (dC, dI) cl_all [(e10, .int), (e11, .int)] U ∧ va_D (fun _ => True) [(m0, .inr (11, (.ref m_mem :: .int 0 :: .int 0 :: .int 0 :: .ref m_at :: .ref m_length :: .ref m_parent :: .ref m_height :: .ref m_time :: .ref m_target :: .ref m_work :: .ref m_arrival :: .ref m_sound :: .ref m_firstTx :: .ref m_txs :: .ref m_blockId :: .int 1 :: .int 0 :: .int 0 :: .int 0 :: .int 0 :: .ref m_heldLength :: .ref m_heldArrival :: .ref m_heldId :: .int 0 :: .ref m_ids :: .ref m_poolLength :: .ref m_poolFee :: .int 0 :: .int 0 :: .int 0 :: .ref m_inId :: .ref m_inIndex :: .ref m_keyAt :: .ref m_keyLength :: .int 0 :: .ref m_outValue :: .ref m_lockAt :: .ref m_lockLength :: .ref m_w :: .ref m_h :: .ref m_once :: .ref m_digest :: .ref m_signHash :: .ref m_buffer :: .ref m_merkle :: .ref m_stack :: .ref m_sizes :: .int 0 :: .ref m_branch :: .ref m_tipCoins :: .ref m_poolCoins :: .ref m_workCoins :: .ref m_path :: .ref m_order :: .ref m_spent :: []))), (m_w, .inl (e10, 64, .inl f1)), (m_h, .inl (e11, 8, .inl f2))] ∧ zz z (va_A [(m0, .inr (11, (.ref m_mem :: .int 0 :: .int 0 :: .int 0 :: .ref m_at :: .ref m_length :: .ref m_parent :: .ref m_height :: .ref m_time :: .ref m_target :: .ref m_work :: .ref m_arrival :: .ref m_sound :: .ref m_firstTx :: .ref m_txs :: .ref m_blockId :: .int 1 :: .int 0 :: .int 0 :: .int 0 :: .int 0 :: .ref m_heldLength :: .ref m_heldArrival :: .ref m_heldId :: .int 0 :: .ref m_ids :: .ref m_poolLength :: .ref m_poolFee :: .int 0 :: .int 0 :: .int 0 :: .ref m_inId :: .ref m_inIndex :: .ref m_keyAt :: .ref m_keyLength :: .int 0 :: .ref m_outValue :: .ref m_lockAt :: .ref m_lockLength :: .ref m_w :: .ref m_h :: .ref m_once :: .ref m_digest :: .ref m_signHash :: .ref m_buffer :: .ref m_merkle :: .ref m_stack :: .ref m_sizes :: .int 0 :: .ref m_branch :: .ref m_tipCoins :: .ref m_poolCoins :: .ref m_workCoins :: .ref m_path :: .ref m_order :: .ref m_spent :: []))), (m_w, .inl (e10, 64, .inl f1)), (m_h, .inl (e11, 8, .inl f2))] sz) U U.heap)) (va_Qv (fun _ : Unit => True) (fun _ t => ∃ (g1 : Nat → Int32) (g2 : Nat → Int32), va_P (dC, dI) cl_all [(m0, .inr (11, (.ref m_mem :: .int 0 :: .int 0 :: .int 0 :: .ref m_at :: .ref m_length :: .ref m_parent :: .ref m_height :: .ref m_time :: .ref m_target :: .ref m_work :: .ref m_arrival :: .ref m_sound :: .ref m_firstTx :: .ref m_txs :: .ref m_blockId :: .int 1 :: .int 0 :: .int 0 :: .int 0 :: .int 0 :: .ref m_heldLength :: .ref m_heldArrival :: .ref m_heldId :: .int 0 :: .ref m_ids :: .ref m_poolLength :: .ref m_poolFee :: .int 0 :: .int 0 :: .int 0 :: .ref m_inId :: .ref m_inIndex :: .ref m_keyAt :: .ref m_keyLength :: .int 0 :: .ref m_outValue :: .ref m_lockAt :: .ref m_lockLength :: .ref m_w :: .ref m_h :: .ref m_once :: .ref m_digest :: .ref m_signHash :: .ref m_buffer :: .ref m_merkle :: .ref m_stack :: .ref m_sizes :: .int 0 :: .ref m_branch :: .ref m_tipCoins :: .ref m_poolCoins :: .ref m_workCoins :: .ref m_path :: .ref m_order :: .ref m_spent :: []))), (m_w, .inl (e10, 64, .inl g1)), (m_h, .inl (e11, 8, .inl g2))] t.heap ∧ va_K (dC, dI) cl_all [] t ∧ va_D (va_A [(m0, .inr (11, (.ref m_mem :: .int 0 :: .int 0 :: .int 0 :: .ref m_at :: .ref m_length :: .ref m_parent :: .ref m_height :: .ref m_time :: .ref m_target :: .ref m_work :: .ref m_arrival :: .ref m_sound :: .ref m_firstTx :: .ref m_txs :: .ref m_blockId :: .int 1 :: .int 0 :: .int 0 :: .int 0 :: .int 0 :: .ref m_heldLength :: .ref m_heldArrival :: .ref m_heldId :: .int 0 :: .ref m_ids :: .ref m_poolLength :: .ref m_poolFee :: .int 0 :: .int 0 :: .int 0 :: .ref m_inId :: .ref m_inIndex :: .ref m_keyAt :: .ref m_keyLength :: .int 0 :: .ref m_outValue :: .ref m_lockAt :: .ref m_lockLength :: .ref m_w :: .ref m_h :: .ref m_once :: .ref m_digest :: .ref m_signHash :: .ref m_buffer :: .ref m_merkle :: .ref m_stack :: .ref m_sizes :: .int 0 :: .ref m_branch :: .ref m_tipCoins :: .ref m_poolCoins :: .ref m_workCoins :: .ref m_path :: .ref m_order :: .ref m_spent :: []))), (m_w, .inl (e10, 64, .inl f1)), (m_h, .inl (e11, 8, .inl f2))] sz) [(m0, .inr (11, (.ref m_mem :: .int 0 :: .int 0 :: .int 0 :: .ref m_at :: .ref m_length :: .ref m_parent :: .ref m_height :: .ref m_time :: .ref m_target :: .ref m_work :: .ref m_arrival :: .ref m_sound :: .ref m_firstTx :: .ref m_txs :: .ref m_blockId :: .int 1 :: .int 0 :: .int 0 :: .int 0 :: .int 0 :: .ref m_heldLength :: .ref m_heldArrival :: .ref m_heldId :: .int 0 :: .ref m_ids :: .ref m_poolLength :: .ref m_poolFee :: .int 0 :: .int 0 :: .int 0 :: .ref m_inId :: .ref m_inIndex :: .ref m_keyAt :: .ref m_keyLength :: .int 0 :: .ref m_outValue :: .ref m_lockAt :: .ref m_lockLength :: .ref m_w :: .ref m_h :: .ref m_once :: .ref m_digest :: .ref m_signHash :: .ref m_buffer :: .ref m_merkle :: .ref m_stack :: .ref m_sizes :: .int 0 :: .ref m_branch :: .ref m_tipCoins :: .ref m_poolCoins :: .ref m_workCoins :: .ref m_path :: .ref m_order :: .ref m_spent :: []))), (m_w, .inl (e10, 64, .inl g1)), (m_h, .inl (e11, 8, .inl g2))]) (va_A [(m0, .inr (11, (.ref m_mem :: .int 0 :: .int 0 :: .int 0 :: .ref m_at :: .ref m_length :: .ref m_parent :: .ref m_height :: .ref m_time :: .ref m_target :: .ref m_work :: .ref m_arrival :: .ref m_sound :: .ref m_firstTx :: .ref m_txs :: .ref m_blockId :: .int 1 :: .int 0 :: .int 0 :: .int 0 :: .int 0 :: .ref m_heldLength :: .ref m_heldArrival :: .ref m_heldId :: .int 0 :: .ref m_ids :: .ref m_poolLength :: .ref m_poolFee :: .int 0 :: .int 0 :: .int 0 :: .ref m_inId :: .ref m_inIndex :: .ref m_keyAt :: .ref m_keyLength :: .int 0 :: .ref m_outValue :: .ref m_lockAt :: .ref m_lockLength :: .ref m_w :: .ref m_h :: .ref m_once :: .ref m_digest :: .ref m_signHash :: .ref m_buffer :: .ref m_merkle :: .ref m_stack :: .ref m_sizes :: .int 0 :: .ref m_branch :: .ref m_tipCoins :: .ref m_poolCoins :: .ref m_workCoins :: .ref m_path :: .ref m_order :: .ref m_spent :: []))), (m_w, .inl (e10, 64, .inl f1)), (m_h, .inl (e11, 8, .inl f2))] sz)) 0 0 (va_A [(m0, .inr (11, (.ref m_mem :: .int 0 :: .int 0 :: .int 0 :: .ref m_at :: .ref m_length :: .ref m_parent :: .ref m_height :: .ref m_time :: .ref m_target :: .ref m_work :: .ref m_arrival :: .ref m_sound :: .ref m_firstTx :: .ref m_txs :: .ref m_blockId :: .int 1 :: .int 0 :: .int 0 :: .int 0 :: .int 0 :: .ref m_heldLength :: .ref m_heldArrival :: .ref m_heldId :: .int 0 :: .ref m_ids :: .ref m_poolLength :: .ref m_poolFee :: .int 0 :: .int 0 :: .int 0 :: .ref m_inId :: .ref m_inIndex :: .ref m_keyAt :: .ref m_keyLength :: .int 0 :: .ref m_outValue :: .ref m_lockAt :: .ref m_lockLength :: .ref m_w :: .ref m_h :: .ref m_once :: .ref m_digest :: .ref m_signHash :: .ref m_buffer :: .ref m_merkle :: .ref m_stack :: .ref m_sizes :: .int 0 :: .ref m_branch :: .ref m_tipCoins :: .ref m_poolCoins :: .ref m_workCoins :: .ref m_path :: .ref m_order :: .ref m_spent :: []))), (m_w, .inl (e10, 64, .inl f1)), (m_h, .inl (e11, 8, .inl f2))] sz) := by
  refine Met.ofW (cc := b_Mo_round) (maxL := 12) (ret := none) (by decide) rfl ?_
  intro p e s m args below meth c s₁ B hml hv
  obtain ⟨rfl, hsz, hP, hK, hD0, hZ⟩ := hv
  have hx := B.exec
  have hb := B.bytes
  have hr := B.returns
  have hT : ∀ w ∈ lw_all, w.before _ s = true := fun w h => atoms_spec (ws := w_Mo_round) B.pre w (List.mem_cons_of_mem _ h)
  have hown : s.vm.findClass R_Mo = some m.cls := findClass_of_methodNamed B.named
  have hlocks := B.notSynchronized
  subst hsz
  have hD := hD0.self (sz := s.heap.size)
  generalize hAe : va_A [(m0, .inr (11, (.ref m_mem :: .int 0 :: .int 0 :: .int 0 :: .ref m_at :: .ref m_length :: .ref m_parent :: .ref m_height :: .ref m_time :: .ref m_target :: .ref m_work :: .ref m_arrival :: .ref m_sound :: .ref m_firstTx :: .ref m_txs :: .ref m_blockId :: .int 1 :: .int 0 :: .int 0 :: .int 0 :: .int 0 :: .ref m_heldLength :: .ref m_heldArrival :: .ref m_heldId :: .int 0 :: .ref m_ids :: .ref m_poolLength :: .ref m_poolFee :: .int 0 :: .int 0 :: .int 0 :: .ref m_inId :: .ref m_inIndex :: .ref m_keyAt :: .ref m_keyLength :: .int 0 :: .ref m_outValue :: .ref m_lockAt :: .ref m_lockLength :: .ref m_w :: .ref m_h :: .ref m_once :: .ref m_digest :: .ref m_signHash :: .ref m_buffer :: .ref m_merkle :: .ref m_stack :: .ref m_sizes :: .int 0 :: .ref m_branch :: .ref m_tipCoins :: .ref m_poolCoins :: .ref m_workCoins :: .ref m_path :: .ref m_order :: .ref m_spent :: []))), (m_w, .inl (e10, 64, .inl f1)), (m_h, .inl (e11, 8, .inl f2))] s.heap.size = A at hD hZ ⊢
  have hA : ∀ q : Nat, s.heap.size ≤ q → A q := fun q h => by rw [← hAe]; exact Or.inr h
  have hS : va_S A s.heap s.heap [] := va_S.rf
  have hl := lv_entry ([.ref m0]) (n := 12) (Nat.le_of_ble_eq_true rfl)
  rw [lg_entry_eq]
  generalize (lg_sl ([.ref m0]) ++ List.replicate (12 - (lg_sl ([.ref m0])).length) Slot.unset).toArray = ls at hl ⊢
  have hl : lv_has ls 12 [(0, .ref m0)] := hl
  refine lv_bipush (v := 16) hx hb d_Mo_round_0 (by decide) ?_
  refine lv_istore_n (lv' := [(1, .int 16), (0, .ref m0)]) hx hb d_Mo_round_2 rfl hl (by decide) rfl (fun ls hl => ?_)
  have lp3_1 : ∀ (Q : State → Prop) (n i : Nat) (w : Nat → Int32) (H : Heap) (locs : List Loc) (ls : Array Slot), i + n = 64 → 16 ≤ i → va_P (dC, dI) cl_all [(m0, .inr (11, (.ref m_mem :: .int 0 :: .int 0 :: .int 0 :: .ref m_at :: .ref m_length :: .ref m_parent :: .ref m_height :: .ref m_time :: .ref m_target :: .ref m_work :: .ref m_arrival :: .ref m_sound :: .ref m_firstTx :: .ref m_txs :: .ref m_blockId :: .int 1 :: .int 0 :: .int 0 :: .int 0 :: .int 0 :: .ref m_heldLength :: .ref m_heldArrival :: .ref m_heldId :: .int 0 :: .ref m_ids :: .ref m_poolLength :: .ref m_poolFee :: .int 0 :: .int 0 :: .int 0 :: .ref m_inId :: .ref m_inIndex :: .ref m_keyAt :: .ref m_keyLength :: .int 0 :: .ref m_outValue :: .ref m_lockAt :: .ref m_lockLength :: .ref m_w :: .ref m_h :: .ref m_once :: .ref m_digest :: .ref m_signHash :: .ref m_buffer :: .ref m_merkle :: .ref m_stack :: .ref m_sizes :: .int 0 :: .ref m_branch :: .ref m_tipCoins :: .ref m_poolCoins :: .ref m_workCoins :: .ref m_path :: .ref m_order :: .ref m_spent :: []))), (m_w, .inl (e10, 64, .inl w)), (m_h, .inl (e11, 8, .inl f2))] H → va_D A [(m0, .inr (11, (.ref m_mem :: .int 0 :: .int 0 :: .int 0 :: .ref m_at :: .ref m_length :: .ref m_parent :: .ref m_height :: .ref m_time :: .ref m_target :: .ref m_work :: .ref m_arrival :: .ref m_sound :: .ref m_firstTx :: .ref m_txs :: .ref m_blockId :: .int 1 :: .int 0 :: .int 0 :: .int 0 :: .int 0 :: .ref m_heldLength :: .ref m_heldArrival :: .ref m_heldId :: .int 0 :: .ref m_ids :: .ref m_poolLength :: .ref m_poolFee :: .int 0 :: .int 0 :: .int 0 :: .ref m_inId :: .ref m_inIndex :: .ref m_keyAt :: .ref m_keyLength :: .int 0 :: .ref m_outValue :: .ref m_lockAt :: .ref m_lockLength :: .ref m_w :: .ref m_h :: .ref m_once :: .ref m_digest :: .ref m_signHash :: .ref m_buffer :: .ref m_merkle :: .ref m_stack :: .ref m_sizes :: .int 0 :: .ref m_branch :: .ref m_tipCoins :: .ref m_poolCoins :: .ref m_workCoins :: .ref m_path :: .ref m_order :: .ref m_spent :: []))), (m_w, .inl (e10, 64, .inl w)), (m_h, .inl (e11, 8, .inl f2))] → va_S A s.heap H locs → lv_has ls 12 [(0, .ref m0), (1, .int (nI i))] → (∀ (w : Nat → Int32) (H : Heap) (locs : List Loc) (ls : Array Slot), va_P (dC, dI) cl_all [(m0, .inr (11, (.ref m_mem :: .int 0 :: .int 0 :: .int 0 :: .ref m_at :: .ref m_length :: .ref m_parent :: .ref m_height :: .ref m_time :: .ref m_target :: .ref m_work :: .ref m_arrival :: .ref m_sound :: .ref m_firstTx :: .ref m_txs :: .ref m_blockId :: .int 1 :: .int 0 :: .int 0 :: .int 0 :: .int 0 :: .ref m_heldLength :: .ref m_heldArrival :: .ref m_heldId :: .int 0 :: .ref m_ids :: .ref m_poolLength :: .ref m_poolFee :: .int 0 :: .int 0 :: .int 0 :: .ref m_inId :: .ref m_inIndex :: .ref m_keyAt :: .ref m_keyLength :: .int 0 :: .ref m_outValue :: .ref m_lockAt :: .ref m_lockLength :: .ref m_w :: .ref m_h :: .ref m_once :: .ref m_digest :: .ref m_signHash :: .ref m_buffer :: .ref m_merkle :: .ref m_stack :: .ref m_sizes :: .int 0 :: .ref m_branch :: .ref m_tipCoins :: .ref m_poolCoins :: .ref m_workCoins :: .ref m_path :: .ref m_order :: .ref m_spent :: []))), (m_w, .inl (e10, 64, .inl w)), (m_h, .inl (e11, 8, .inl f2))] H → va_D A [(m0, .inr (11, (.ref m_mem :: .int 0 :: .int 0 :: .int 0 :: .ref m_at :: .ref m_length :: .ref m_parent :: .ref m_height :: .ref m_time :: .ref m_target :: .ref m_work :: .ref m_arrival :: .ref m_sound :: .ref m_firstTx :: .ref m_txs :: .ref m_blockId :: .int 1 :: .int 0 :: .int 0 :: .int 0 :: .int 0 :: .ref m_heldLength :: .ref m_heldArrival :: .ref m_heldId :: .int 0 :: .ref m_ids :: .ref m_poolLength :: .ref m_poolFee :: .int 0 :: .int 0 :: .int 0 :: .ref m_inId :: .ref m_inIndex :: .ref m_keyAt :: .ref m_keyLength :: .int 0 :: .ref m_outValue :: .ref m_lockAt :: .ref m_lockLength :: .ref m_w :: .ref m_h :: .ref m_once :: .ref m_digest :: .ref m_signHash :: .ref m_buffer :: .ref m_merkle :: .ref m_stack :: .ref m_sizes :: .int 0 :: .ref m_branch :: .ref m_tipCoins :: .ref m_poolCoins :: .ref m_workCoins :: .ref m_path :: .ref m_order :: .ref m_spent :: []))), (m_w, .inl (e10, 64, .inl w)), (m_h, .inl (e11, 8, .inl f2))] → va_S A s.heap H locs → lv_has ls 12 [(0, .ref m0), (1, .int (nI 64))] → W p l e (headSpec w_Mo_round ({ frames := 0, cells := 0, slots := 0, locals := 0 })).room s m ([.ref m0] : List Value).toArray below meth c H locs 0 0 Q (F0 m 116 ls [])) → W p l e (headSpec w_Mo_round ({ frames := 0, cells := 0, slots := 0, locals := 0 })).room s m ([.ref m0] : List Value).toArray below meth c H locs 0 0 Q (F0 m 3 ls []) := by
    intro Q n
    induction n with
    | zero =>
      intro i w H locs ls hi_3 ha_3  hP hD hS hl kx_3
      have hi_3 : i = 64 := by omega
      subst hi_3
      refine lv_iload_n hx hb d_Mo_round_3 rfl (lv_at hl 1 rfl) ?_
      refine lv_bipush (v := 64) hx hb d_Mo_round_4 (by decide) ?_
      refine lv_icmp_ge (tgt := 116) hx hb d_Mo_round_6 (by decide) (fun _ => ?_) (fun h => absurd ((nI_leI (a := 64) (b := (64)) (by omega) (by omega)).mpr (by omega)) h)
      exact kx_3 w _ _ _  hP hD hS (lv_sub hl [0, 1] rfl)
    | succ n ih_3 =>
      intro i w H locs ls hi_3 ha_3  hP hD hS hl kx_3
      refine lv_iload_n hx hb d_Mo_round_3 rfl (lv_at hl 1 rfl) ?_
      refine lv_bipush (v := 64) hx hb d_Mo_round_4 (by decide) ?_
      refine lv_icmp_ge (tgt := 116) hx hb d_Mo_round_6 (by decide) (fun h => absurd h (fun h9 => absurd ((nI_leI (a := 64) (b := (i)) (by omega) (by omega)).mp h9) (by omega))) (fun _ => ?_)
      refine lv_aload_n hx hb d_Mo_round_9 rfl (lv_at hl 0 rfl) ?_
      refine va_get (D := (dC, dI)) (ci := 11) (v := .ref m_w) (C := R_Mo) (T := F_Mo) (N := 56) hx hb hT i_Mo hown hK hP 0 rfl rfl 39 (by decide) (hT _ k_318) (fun _ h9 => h9) rfl d_Mo_round_10 ?_
      refine lv_iload_n hx hb d_Mo_round_13 rfl (lv_at hl 1 rfl) ?_
      refine lv_bipush (v := 15) hx hb d_Mo_round_14 (by decide) ?_
      refine lv_isub hx hb d_Mo_round_16 ?_
      refine zz_i (v := nI ((i) - 15)) (pk_sub (a := (i)) (b := 15) (by omega)) ?_
      refine va_iald hx hb hK hP 1 0 rfl rfl (vp_in_nI (by omega) (by omega)) d_Mo_round_17 ?_
      refine lv_topi (fun x_2 _ => ?_)
      refine lv_istore_n (lv' := [(2, .int x_2), (0, .ref m0), (1, .int (nI i))]) hx hb d_Mo_round_18 rfl hl (by decide) rfl (fun ls hl => ?_)
      refine lv_aload_n hx hb d_Mo_round_19 rfl (lv_at hl 1 rfl) ?_
      refine va_get (D := (dC, dI)) (ci := 11) (v := .ref m_w) (C := R_Mo) (T := F_Mo) (N := 56) hx hb hT i_Mo hown hK hP 0 rfl rfl 39 (by decide) (hT _ k_318) (fun _ h9 => h9) rfl d_Mo_round_20 ?_
      refine lv_iload_n hx hb d_Mo_round_23 rfl (lv_at hl 2 rfl) ?_
      refine lv_iconst (v := 2) hx hb d_Mo_round_24 (by decide) ?_
      refine lv_isub hx hb d_Mo_round_25 ?_
      refine zz_i (v := nI ((i) - 2)) (pk_sub (a := (i)) (b := 2) (by omega)) ?_
      refine va_iald hx hb hK hP 1 0 rfl rfl (vp_in_nI (by omega) (by omega)) d_Mo_round_26 ?_
      refine lv_topi (fun x_3 _ => ?_)
      refine lv_istore_n (lv' := [(3, .int x_3), (2, .int x_2), (0, .ref m0), (1, .int (nI i))]) hx hb d_Mo_round_27 rfl hl (by decide) rfl (fun ls hl => ?_)
      refine lv_iload_n hx hb d_Mo_round_28 rfl (lv_at hl 1 rfl) ?_
      refine lv_bipush (v := 7) hx hb d_Mo_round_29 (by decide) ?_
      refine lv_iushr hx hb d_Mo_round_31 rfl ?_
      refine lv_topi (fun x_4 _ => ?_)
      refine lv_iload_n hx hb d_Mo_round_32 rfl (lv_at hl 1 rfl) ?_
      refine lv_bipush (v := 25) hx hb d_Mo_round_33 (by decide) ?_
      refine lv_ishl hx hb d_Mo_round_35 ?_
      refine lv_topi (fun x_5 _ => ?_)
      refine lv_ior hx hb d_Mo_round_36 ?_
      refine lv_topi (fun x_6 _ => ?_)
      refine lv_iload_n hx hb d_Mo_round_37 rfl (lv_at hl 1 rfl) ?_
      refine lv_bipush (v := 18) hx hb d_Mo_round_38 (by decide) ?_
      refine lv_iushr hx hb d_Mo_round_40 rfl ?_
      refine lv_topi (fun x_7 _ => ?_)
      refine lv_iload_n hx hb d_Mo_round_41 rfl (lv_at hl 1 rfl) ?_
      refine lv_bipush (v := 14) hx hb d_Mo_round_42 (by decide) ?_
      refine lv_ishl hx hb d_Mo_round_44 ?_
      refine lv_topi (fun x_8 _ => ?_)
      refine lv_ior hx hb d_Mo_round_45 ?_
      refine lv_topi (fun x_9 _ => ?_)
      refine lv_ixor hx hb d_Mo_round_46 ?_
      refine lv_topi (fun x_10 _ => ?_)
      refine lv_iload_n hx hb d_Mo_round_47 rfl (lv_at hl 1 rfl) ?_
      refine lv_iconst (v := 3) hx hb d_Mo_round_48 (by decide) ?_
      refine lv_iushr hx hb d_Mo_round_49 rfl ?_
      refine lv_topi (fun x_11 _ => ?_)
      refine lv_ixor hx hb d_Mo_round_50 ?_
      refine lv_topi (fun x_12 _ => ?_)
      refine lv_istore (lv' := [(4, .int x_12), (3, .int x_3), (2, .int x_2), (0, .ref m0), (1, .int (nI i))]) hx hb d_Mo_round_51 hl (by decide) rfl (fun ls hl => ?_)
      refine lv_iload_n hx hb d_Mo_round_53 rfl (lv_at hl 1 rfl) ?_
      refine lv_bipush (v := 17) hx hb d_Mo_round_54 (by decide) ?_
      refine lv_iushr hx hb d_Mo_round_56 rfl ?_
      refine lv_topi (fun x_13 _ => ?_)
      refine lv_iload_n hx hb d_Mo_round_57 rfl (lv_at hl 1 rfl) ?_
      refine lv_bipush (v := 15) hx hb d_Mo_round_58 (by decide) ?_
      refine lv_ishl hx hb d_Mo_round_60 ?_
      refine lv_topi (fun x_14 _ => ?_)
      refine lv_ior hx hb d_Mo_round_61 ?_
      refine lv_topi (fun x_15 _ => ?_)
      refine lv_iload_n hx hb d_Mo_round_62 rfl (lv_at hl 1 rfl) ?_
      refine lv_bipush (v := 19) hx hb d_Mo_round_63 (by decide) ?_
      refine lv_iushr hx hb d_Mo_round_65 rfl ?_
      refine lv_topi (fun x_16 _ => ?_)
      refine lv_iload_n hx hb d_Mo_round_66 rfl (lv_at hl 1 rfl) ?_
      refine lv_bipush (v := 13) hx hb d_Mo_round_67 (by decide) ?_
      refine lv_ishl hx hb d_Mo_round_69 ?_
      refine lv_topi (fun x_17 _ => ?_)
      refine lv_ior hx hb d_Mo_round_70 ?_
      refine lv_topi (fun x_18 _ => ?_)
      refine lv_ixor hx hb d_Mo_round_71 ?_
      refine lv_topi (fun x_19 _ => ?_)
      refine lv_iload_n hx hb d_Mo_round_72 rfl (lv_at hl 1 rfl) ?_
      refine lv_bipush (v := 10) hx hb d_Mo_round_73 (by decide) ?_
      refine lv_iushr hx hb d_Mo_round_75 rfl ?_
      refine lv_topi (fun x_20 _ => ?_)
      refine lv_ixor hx hb d_Mo_round_76 ?_
      refine lv_topi (fun x_21 _ => ?_)
      refine lv_istore (lv' := [(5, .int x_21), (4, .int x_12), (3, .int x_3), (2, .int x_2), (0, .ref m0), (1, .int (nI i))]) hx hb d_Mo_round_77 hl (by decide) rfl (fun ls hl => ?_)
      refine lv_aload_n hx hb d_Mo_round_79 rfl (lv_at hl 4 rfl) ?_
      refine va_get (D := (dC, dI)) (ci := 11) (v := .ref m_w) (C := R_Mo) (T := F_Mo) (N := 56) hx hb hT i_Mo hown hK hP 0 rfl rfl 39 (by decide) (hT _ k_318) (fun _ h9 => h9) rfl d_Mo_round_80 ?_
      refine lv_iload_n hx hb d_Mo_round_83 rfl (lv_at hl 5 rfl) ?_
      refine lv_aload_n hx hb d_Mo_round_84 rfl (lv_at hl 4 rfl) ?_
      refine va_get (D := (dC, dI)) (ci := 11) (v := .ref m_w) (C := R_Mo) (T := F_Mo) (N := 56) hx hb hT i_Mo hown hK hP 0 rfl rfl 39 (by decide) (hT _ k_318) (fun _ h9 => h9) rfl d_Mo_round_85 ?_
      refine lv_iload_n hx hb d_Mo_round_88 rfl (lv_at hl 5 rfl) ?_
      refine lv_bipush (v := 16) hx hb d_Mo_round_89 (by decide) ?_
      refine lv_isub hx hb d_Mo_round_91 ?_
      refine zz_i (v := nI ((i) - 16)) (pk_sub (a := (i)) (b := 16) (by omega)) ?_
      refine va_iald hx hb hK hP 1 0 rfl rfl (vp_in_nI (by omega) (by omega)) d_Mo_round_92 ?_
      refine lv_topi (fun x_22 _ => ?_)
      refine lv_iload hx hb d_Mo_round_93 (lv_at hl 1 rfl) ?_
      refine lv_iadd hx hb d_Mo_round_95 ?_
      refine lv_topi (fun x_23 _ => ?_)
      refine lv_aload_n hx hb d_Mo_round_96 rfl (lv_at hl 4 rfl) ?_
      refine va_get (D := (dC, dI)) (ci := 11) (v := .ref m_w) (C := R_Mo) (T := F_Mo) (N := 56) hx hb hT i_Mo hown hK hP 0 rfl rfl 39 (by decide) (hT _ k_318) (fun _ h9 => h9) rfl d_Mo_round_97 ?_
      refine lv_iload_n hx hb d_Mo_round_100 rfl (lv_at hl 5 rfl) ?_
      refine lv_bipush (v := 7) hx hb d_Mo_round_101 (by decide) ?_
      refine lv_isub hx hb d_Mo_round_103 ?_
      refine zz_i (v := nI ((i) - 7)) (pk_sub (a := (i)) (b := 7) (by omega)) ?_
      refine va_iald hx hb hK hP 1 0 rfl rfl (vp_in_nI (by omega) (by omega)) d_Mo_round_104 ?_
      refine lv_topi (fun x_24 _ => ?_)
      refine lv_iadd hx hb d_Mo_round_105 ?_
      refine lv_topi (fun x_25 _ => ?_)
      refine lv_iload hx hb d_Mo_round_106 (lv_at hl 0 rfl) ?_
      refine lv_iadd hx hb d_Mo_round_108 ?_
      refine lv_topi (fun x_26 _ => ?_)
      refine zz_iast hx hb hK hP hD hS 1 0 rfl rfl (vp_in_nI (by omega) (by omega)) d_Mo_round_109 (fun f_27 H locs hP hD hS => ?_)
      have hP : va_P (dC, dI) cl_all [(m0, .inr (11, (.ref m_mem :: .int 0 :: .int 0 :: .int 0 :: .ref m_at :: .ref m_length :: .ref m_parent :: .ref m_height :: .ref m_time :: .ref m_target :: .ref m_work :: .ref m_arrival :: .ref m_sound :: .ref m_firstTx :: .ref m_txs :: .ref m_blockId :: .int 1 :: .int 0 :: .int 0 :: .int 0 :: .int 0 :: .ref m_heldLength :: .ref m_heldArrival :: .ref m_heldId :: .int 0 :: .ref m_ids :: .ref m_poolLength :: .ref m_poolFee :: .int 0 :: .int 0 :: .int 0 :: .ref m_inId :: .ref m_inIndex :: .ref m_keyAt :: .ref m_keyLength :: .int 0 :: .ref m_outValue :: .ref m_lockAt :: .ref m_lockLength :: .ref m_w :: .ref m_h :: .ref m_once :: .ref m_digest :: .ref m_signHash :: .ref m_buffer :: .ref m_merkle :: .ref m_stack :: .ref m_sizes :: .int 0 :: .ref m_branch :: .ref m_tipCoins :: .ref m_poolCoins :: .ref m_workCoins :: .ref m_path :: .ref m_order :: .ref m_spent :: []))), (m_w, .inl (e10, 64, .inl f_27)), (m_h, .inl (e11, 8, .inl f2))] H := hP
      have hD : va_D A [(m0, .inr (11, (.ref m_mem :: .int 0 :: .int 0 :: .int 0 :: .ref m_at :: .ref m_length :: .ref m_parent :: .ref m_height :: .ref m_time :: .ref m_target :: .ref m_work :: .ref m_arrival :: .ref m_sound :: .ref m_firstTx :: .ref m_txs :: .ref m_blockId :: .int 1 :: .int 0 :: .int 0 :: .int 0 :: .int 0 :: .ref m_heldLength :: .ref m_heldArrival :: .ref m_heldId :: .int 0 :: .ref m_ids :: .ref m_poolLength :: .ref m_poolFee :: .int 0 :: .int 0 :: .int 0 :: .ref m_inId :: .ref m_inIndex :: .ref m_keyAt :: .ref m_keyLength :: .int 0 :: .ref m_outValue :: .ref m_lockAt :: .ref m_lockLength :: .ref m_w :: .ref m_h :: .ref m_once :: .ref m_digest :: .ref m_signHash :: .ref m_buffer :: .ref m_merkle :: .ref m_stack :: .ref m_sizes :: .int 0 :: .ref m_branch :: .ref m_tipCoins :: .ref m_poolCoins :: .ref m_workCoins :: .ref m_path :: .ref m_order :: .ref m_spent :: []))), (m_w, .inl (e10, 64, .inl f_27)), (m_h, .inl (e11, 8, .inl f2))] := hD
      refine lv_iinc (v := (nI (i + 1))) (lv' := [(1, .int (nI (i + 1))), (5, .int x_21), (4, .int x_12), (3, .int x_3), (2, .int x_2), (0, .ref m0)]) hx hb d_Mo_round_110 hl (k := 5) rfl (nI_add (i) 1) (by decide) rfl (fun ls hl => ?_)
      refine lv_goto (tgt := 3) hx hb d_Mo_round_113 (by decide) ?_
      exact ih_3 (i + 1) f_27 _ _ _ (by omega) (by omega)  hP hD hS (lv_sub hl [5, 0] rfl) kx_3
  refine lp3_1 _ (64 - 16) 16 f1 _ _ _ (by omega) (by omega)  hP hD hS (lv_sub hl [1, 0] rfl) (fun f_28 H locs ls  hP hD hS hl => ?_)
  refine lv_aload_n hx hb d_Mo_round_116 rfl (lv_at hl 0 rfl) ?_
  refine va_get (D := (dC, dI)) (ci := 11) (v := .ref m_h) (C := R_Mo) (T := F_Mo) (N := 56) hx hb hT i_Mo hown hK hP 0 rfl rfl 40 (by decide) (hT _ k_319) (fun _ h9 => h9) rfl d_Mo_round_117 ?_
  refine lv_iconst (v := 0) hx hb d_Mo_round_120 (by decide) ?_
  refine va_iald hx hb hK hP 2 1 rfl rfl (by unfold vp_in; decide) d_Mo_round_121 ?_
  refine lv_topi (fun x_29 _ => ?_)
  refine lv_istore_n (lv' := [(1, .int x_29), (0, .ref m0)]) hx hb d_Mo_round_122 rfl hl (by decide) rfl (fun ls hl => ?_)
  refine lv_aload_n hx hb d_Mo_round_123 rfl (lv_at hl 1 rfl) ?_
  refine va_get (D := (dC, dI)) (ci := 11) (v := .ref m_h) (C := R_Mo) (T := F_Mo) (N := 56) hx hb hT i_Mo hown hK hP 0 rfl rfl 40 (by decide) (hT _ k_319) (fun _ h9 => h9) rfl d_Mo_round_124 ?_
  refine lv_iconst (v := 1) hx hb d_Mo_round_127 (by decide) ?_
  refine va_iald hx hb hK hP 2 1 rfl rfl (by unfold vp_in; decide) d_Mo_round_128 ?_
  refine lv_topi (fun x_30 _ => ?_)
  refine lv_istore_n (lv' := [(2, .int x_30), (1, .int x_29), (0, .ref m0)]) hx hb d_Mo_round_129 rfl hl (by decide) rfl (fun ls hl => ?_)
  refine lv_aload_n hx hb d_Mo_round_130 rfl (lv_at hl 2 rfl) ?_
  refine va_get (D := (dC, dI)) (ci := 11) (v := .ref m_h) (C := R_Mo) (T := F_Mo) (N := 56) hx hb hT i_Mo hown hK hP 0 rfl rfl 40 (by decide) (hT _ k_319) (fun _ h9 => h9) rfl d_Mo_round_131 ?_
  refine lv_iconst (v := 2) hx hb d_Mo_round_134 (by decide) ?_
  refine va_iald hx hb hK hP 2 1 rfl rfl (by unfold vp_in; decide) d_Mo_round_135 ?_
  refine lv_topi (fun x_31 _ => ?_)
  refine lv_istore_n (lv' := [(3, .int x_31), (2, .int x_30), (1, .int x_29), (0, .ref m0)]) hx hb d_Mo_round_136 rfl hl (by decide) rfl (fun ls hl => ?_)
  refine lv_aload_n hx hb d_Mo_round_137 rfl (lv_at hl 3 rfl) ?_
  refine va_get (D := (dC, dI)) (ci := 11) (v := .ref m_h) (C := R_Mo) (T := F_Mo) (N := 56) hx hb hT i_Mo hown hK hP 0 rfl rfl 40 (by decide) (hT _ k_319) (fun _ h9 => h9) rfl d_Mo_round_138 ?_
  refine lv_iconst (v := 3) hx hb d_Mo_round_141 (by decide) ?_
  refine va_iald hx hb hK hP 2 1 rfl rfl (by unfold vp_in; decide) d_Mo_round_142 ?_
  refine lv_topi (fun x_32 _ => ?_)
  refine lv_istore (lv' := [(4, .int x_32), (3, .int x_31), (2, .int x_30), (1, .int x_29), (0, .ref m0)]) hx hb d_Mo_round_143 hl (by decide) rfl (fun ls hl => ?_)
  refine lv_aload_n hx hb d_Mo_round_145 rfl (lv_at hl 4 rfl) ?_
  refine va_get (D := (dC, dI)) (ci := 11) (v := .ref m_h) (C := R_Mo) (T := F_Mo) (N := 56) hx hb hT i_Mo hown hK hP 0 rfl rfl 40 (by decide) (hT _ k_319) (fun _ h9 => h9) rfl d_Mo_round_146 ?_
  refine lv_iconst (v := 4) hx hb d_Mo_round_149 (by decide) ?_
  refine va_iald hx hb hK hP 2 1 rfl rfl (by unfold vp_in; decide) d_Mo_round_150 ?_
  refine lv_topi (fun x_33 _ => ?_)
  refine lv_istore (lv' := [(5, .int x_33), (4, .int x_32), (3, .int x_31), (2, .int x_30), (1, .int x_29), (0, .ref m0)]) hx hb d_Mo_round_151 hl (by decide) rfl (fun ls hl => ?_)
  refine lv_aload_n hx hb d_Mo_round_153 rfl (lv_at hl 5 rfl) ?_
  refine va_get (D := (dC, dI)) (ci := 11) (v := .ref m_h) (C := R_Mo) (T := F_Mo) (N := 56) hx hb hT i_Mo hown hK hP 0 rfl rfl 40 (by decide) (hT _ k_319) (fun _ h9 => h9) rfl d_Mo_round_154 ?_
  refine lv_iconst (v := 5) hx hb d_Mo_round_157 (by decide) ?_
  refine va_iald hx hb hK hP 2 1 rfl rfl (by unfold vp_in; decide) d_Mo_round_158 ?_
  refine lv_topi (fun x_34 _ => ?_)
  refine lv_istore (lv' := [(6, .int x_34), (5, .int x_33), (4, .int x_32), (3, .int x_31), (2, .int x_30), (1, .int x_29), (0, .ref m0)]) hx hb d_Mo_round_159 hl (by decide) rfl (fun ls hl => ?_)
  refine lv_aload_n hx hb d_Mo_round_161 rfl (lv_at hl 6 rfl) ?_
  refine va_get (D := (dC, dI)) (ci := 11) (v := .ref m_h) (C := R_Mo) (T := F_Mo) (N := 56) hx hb hT i_Mo hown hK hP 0 rfl rfl 40 (by decide) (hT _ k_319) (fun _ h9 => h9) rfl d_Mo_round_162 ?_
  refine lv_bipush (v := 6) hx hb d_Mo_round_165 (by decide) ?_
  refine va_iald hx hb hK hP 2 1 rfl rfl (by unfold vp_in; decide) d_Mo_round_167 ?_
  refine lv_topi (fun x_35 _ => ?_)
  refine lv_istore (lv' := [(7, .int x_35), (6, .int x_34), (5, .int x_33), (4, .int x_32), (3, .int x_31), (2, .int x_30), (1, .int x_29), (0, .ref m0)]) hx hb d_Mo_round_168 hl (by decide) rfl (fun ls hl => ?_)
  refine lv_aload_n hx hb d_Mo_round_170 rfl (lv_at hl 7 rfl) ?_
  refine va_get (D := (dC, dI)) (ci := 11) (v := .ref m_h) (C := R_Mo) (T := F_Mo) (N := 56) hx hb hT i_Mo hown hK hP 0 rfl rfl 40 (by decide) (hT _ k_319) (fun _ h9 => h9) rfl d_Mo_round_171 ?_
  refine lv_bipush (v := 7) hx hb d_Mo_round_174 (by decide) ?_
  refine va_iald hx hb hK hP 2 1 rfl rfl (by unfold vp_in; decide) d_Mo_round_176 ?_
  refine lv_topi (fun x_36 _ => ?_)
  refine lv_istore (lv' := [(8, .int x_36), (7, .int x_35), (6, .int x_34), (5, .int x_33), (4, .int x_32), (3, .int x_31), (2, .int x_30), (1, .int x_29), (0, .ref m0)]) hx hb d_Mo_round_177 hl (by decide) rfl (fun ls hl => ?_)
  refine lv_iconst (v := 0) hx hb d_Mo_round_179 (by decide) ?_
  refine lv_istore (lv' := [(9, .int 0), (8, .int x_36), (7, .int x_35), (6, .int x_34), (5, .int x_33), (4, .int x_32), (3, .int x_31), (2, .int x_30), (1, .int x_29), (0, .ref m0)]) hx hb d_Mo_round_180 hl (by decide) rfl (fun ls hl => ?_)
  have lp182_37 : ∀ (Q : State → Prop) (n i : Nat) (a b c9 d e9 f g h : Int32) (H : Heap) (locs : List Loc) (ls : Array Slot), i + n = 64 → 0 ≤ i → va_P (dC, dI) cl_all [(m0, .inr (11, (.ref m_mem :: .int 0 :: .int 0 :: .int 0 :: .ref m_at :: .ref m_length :: .ref m_parent :: .ref m_height :: .ref m_time :: .ref m_target :: .ref m_work :: .ref m_arrival :: .ref m_sound :: .ref m_firstTx :: .ref m_txs :: .ref m_blockId :: .int 1 :: .int 0 :: .int 0 :: .int 0 :: .int 0 :: .ref m_heldLength :: .ref m_heldArrival :: .ref m_heldId :: .int 0 :: .ref m_ids :: .ref m_poolLength :: .ref m_poolFee :: .int 0 :: .int 0 :: .int 0 :: .ref m_inId :: .ref m_inIndex :: .ref m_keyAt :: .ref m_keyLength :: .int 0 :: .ref m_outValue :: .ref m_lockAt :: .ref m_lockLength :: .ref m_w :: .ref m_h :: .ref m_once :: .ref m_digest :: .ref m_signHash :: .ref m_buffer :: .ref m_merkle :: .ref m_stack :: .ref m_sizes :: .int 0 :: .ref m_branch :: .ref m_tipCoins :: .ref m_poolCoins :: .ref m_workCoins :: .ref m_path :: .ref m_order :: .ref m_spent :: []))), (m_w, .inl (e10, 64, .inl f_28)), (m_h, .inl (e11, 8, .inl f2))] H → va_D A [(m0, .inr (11, (.ref m_mem :: .int 0 :: .int 0 :: .int 0 :: .ref m_at :: .ref m_length :: .ref m_parent :: .ref m_height :: .ref m_time :: .ref m_target :: .ref m_work :: .ref m_arrival :: .ref m_sound :: .ref m_firstTx :: .ref m_txs :: .ref m_blockId :: .int 1 :: .int 0 :: .int 0 :: .int 0 :: .int 0 :: .ref m_heldLength :: .ref m_heldArrival :: .ref m_heldId :: .int 0 :: .ref m_ids :: .ref m_poolLength :: .ref m_poolFee :: .int 0 :: .int 0 :: .int 0 :: .ref m_inId :: .ref m_inIndex :: .ref m_keyAt :: .ref m_keyLength :: .int 0 :: .ref m_outValue :: .ref m_lockAt :: .ref m_lockLength :: .ref m_w :: .ref m_h :: .ref m_once :: .ref m_digest :: .ref m_signHash :: .ref m_buffer :: .ref m_merkle :: .ref m_stack :: .ref m_sizes :: .int 0 :: .ref m_branch :: .ref m_tipCoins :: .ref m_poolCoins :: .ref m_workCoins :: .ref m_path :: .ref m_order :: .ref m_spent :: []))), (m_w, .inl (e10, 64, .inl f_28)), (m_h, .inl (e11, 8, .inl f2))] → va_S A s.heap H locs → lv_has ls 12 [(0, .ref m0), (1, .int a), (2, .int b), (3, .int c9), (4, .int d), (5, .int e9), (6, .int f), (7, .int g), (8, .int h), (9, .int (nI i))] → (∀ (a b c9 d e9 f g h : Int32) (H : Heap) (locs : List Loc) (ls : Array Slot), va_P (dC, dI) cl_all [(m0, .inr (11, (.ref m_mem :: .int 0 :: .int 0 :: .int 0 :: .ref m_at :: .ref m_length :: .ref m_parent :: .ref m_height :: .ref m_time :: .ref m_target :: .ref m_work :: .ref m_arrival :: .ref m_sound :: .ref m_firstTx :: .ref m_txs :: .ref m_blockId :: .int 1 :: .int 0 :: .int 0 :: .int 0 :: .int 0 :: .ref m_heldLength :: .ref m_heldArrival :: .ref m_heldId :: .int 0 :: .ref m_ids :: .ref m_poolLength :: .ref m_poolFee :: .int 0 :: .int 0 :: .int 0 :: .ref m_inId :: .ref m_inIndex :: .ref m_keyAt :: .ref m_keyLength :: .int 0 :: .ref m_outValue :: .ref m_lockAt :: .ref m_lockLength :: .ref m_w :: .ref m_h :: .ref m_once :: .ref m_digest :: .ref m_signHash :: .ref m_buffer :: .ref m_merkle :: .ref m_stack :: .ref m_sizes :: .int 0 :: .ref m_branch :: .ref m_tipCoins :: .ref m_poolCoins :: .ref m_workCoins :: .ref m_path :: .ref m_order :: .ref m_spent :: []))), (m_w, .inl (e10, 64, .inl f_28)), (m_h, .inl (e11, 8, .inl f2))] H → va_D A [(m0, .inr (11, (.ref m_mem :: .int 0 :: .int 0 :: .int 0 :: .ref m_at :: .ref m_length :: .ref m_parent :: .ref m_height :: .ref m_time :: .ref m_target :: .ref m_work :: .ref m_arrival :: .ref m_sound :: .ref m_firstTx :: .ref m_txs :: .ref m_blockId :: .int 1 :: .int 0 :: .int 0 :: .int 0 :: .int 0 :: .ref m_heldLength :: .ref m_heldArrival :: .ref m_heldId :: .int 0 :: .ref m_ids :: .ref m_poolLength :: .ref m_poolFee :: .int 0 :: .int 0 :: .int 0 :: .ref m_inId :: .ref m_inIndex :: .ref m_keyAt :: .ref m_keyLength :: .int 0 :: .ref m_outValue :: .ref m_lockAt :: .ref m_lockLength :: .ref m_w :: .ref m_h :: .ref m_once :: .ref m_digest :: .ref m_signHash :: .ref m_buffer :: .ref m_merkle :: .ref m_stack :: .ref m_sizes :: .int 0 :: .ref m_branch :: .ref m_tipCoins :: .ref m_poolCoins :: .ref m_workCoins :: .ref m_path :: .ref m_order :: .ref m_spent :: []))), (m_w, .inl (e10, 64, .inl f_28)), (m_h, .inl (e11, 8, .inl f2))] → va_S A s.heap H locs → lv_has ls 12 [(0, .ref m0), (1, .int a), (2, .int b), (3, .int c9), (4, .int d), (5, .int e9), (6, .int f), (7, .int g), (8, .int h), (9, .int (nI 64))] → W p l e (headSpec w_Mo_round ({ frames := 0, cells := 0, slots := 0, locals := 0 })).room s m ([.ref m0] : List Value).toArray below meth c H locs 0 0 Q (F0 m 338 ls [])) → W p l e (headSpec w_Mo_round ({ frames := 0, cells := 0, slots := 0, locals := 0 })).room s m ([.ref m0] : List Value).toArray below meth c H locs 0 0 Q (F0 m 182 ls []) := by
    intro Q n
    induction n with
    | zero =>
      intro i a b c9 d e9 f g h H locs ls hi_182 ha_182  hP hD hS hl kx_182
      have hi_182 : i = 64 := by omega
      subst hi_182
      refine lv_iload hx hb d_Mo_round_182 (lv_at hl 9 rfl) ?_
      refine lv_bipush (v := 64) hx hb d_Mo_round_184 (by decide) ?_
      refine lv_icmp_ge (tgt := 338) hx hb d_Mo_round_186 (by decide) (fun _ => ?_) (fun h => absurd ((nI_leI (a := 64) (b := (64)) (by omega) (by omega)).mpr (by omega)) h)
      exact kx_182 a b c9 d e9 f g h _ _ _  hP hD hS (lv_sub hl [0, 1, 2, 3, 4, 5, 6, 7, 8, 9] rfl)
    | succ n ih_182 =>
      intro i a b c9 d e9 f g h H locs ls hi_182 ha_182  hP hD hS hl kx_182
      refine lv_iload hx hb d_Mo_round_182 (lv_at hl 9 rfl) ?_
      refine lv_bipush (v := 64) hx hb d_Mo_round_184 (by decide) ?_
      refine lv_icmp_ge (tgt := 338) hx hb d_Mo_round_186 (by decide) (fun h => absurd h (fun h9 => absurd ((nI_leI (a := 64) (b := (i)) (by omega) (by omega)).mp h9) (by omega))) (fun _ => ?_)
      refine lv_iload hx hb d_Mo_round_189 (lv_at hl 8 rfl) ?_
      refine lv_iload hx hb d_Mo_round_191 (lv_at hl 5 rfl) ?_
      refine lv_bipush (v := 6) hx hb d_Mo_round_193 (by decide) ?_
      refine lv_iushr hx hb d_Mo_round_195 rfl ?_
      refine lv_topi (fun x_38 _ => ?_)
      refine lv_iload hx hb d_Mo_round_196 (lv_at hl 5 rfl) ?_
      refine lv_bipush (v := 26) hx hb d_Mo_round_198 (by decide) ?_
      refine lv_ishl hx hb d_Mo_round_200 ?_
      refine lv_topi (fun x_39 _ => ?_)
      refine lv_ior hx hb d_Mo_round_201 ?_
      refine lv_topi (fun x_40 _ => ?_)
      refine lv_iload hx hb d_Mo_round_202 (lv_at hl 5 rfl) ?_
      refine lv_bipush (v := 11) hx hb d_Mo_round_204 (by decide) ?_
      refine lv_iushr hx hb d_Mo_round_206 rfl ?_
      refine lv_topi (fun x_41 _ => ?_)
      refine lv_iload hx hb d_Mo_round_207 (lv_at hl 5 rfl) ?_
      refine lv_bipush (v := 21) hx hb d_Mo_round_209 (by decide) ?_
      refine lv_ishl hx hb d_Mo_round_211 ?_
      refine lv_topi (fun x_42 _ => ?_)
      refine lv_ior hx hb d_Mo_round_212 ?_
      refine lv_topi (fun x_43 _ => ?_)
      refine lv_ixor hx hb d_Mo_round_213 ?_
      refine lv_topi (fun x_44 _ => ?_)
      refine lv_iload hx hb d_Mo_round_214 (lv_at hl 5 rfl) ?_
      refine lv_bipush (v := 25) hx hb d_Mo_round_216 (by decide) ?_
      refine lv_iushr hx hb d_Mo_round_218 rfl ?_
      refine lv_topi (fun x_45 _ => ?_)
      refine lv_iload hx hb d_Mo_round_219 (lv_at hl 5 rfl) ?_
      refine lv_bipush (v := 7) hx hb d_Mo_round_221 (by decide) ?_
      refine lv_ishl hx hb d_Mo_round_223 ?_
      refine lv_topi (fun x_46 _ => ?_)
      refine lv_ior hx hb d_Mo_round_224 ?_
      refine lv_topi (fun x_47 _ => ?_)
      refine lv_ixor hx hb d_Mo_round_225 ?_
      refine lv_topi (fun x_48 _ => ?_)
      refine lv_iadd hx hb d_Mo_round_226 ?_
      refine lv_topi (fun x_49 _ => ?_)
      refine lv_iload hx hb d_Mo_round_227 (lv_at hl 5 rfl) ?_
      refine lv_iload hx hb d_Mo_round_229 (lv_at hl 6 rfl) ?_
      refine lv_iand hx hb d_Mo_round_231 ?_
      refine lv_topi (fun x_50 _ => ?_)
      refine lv_iload hx hb d_Mo_round_232 (lv_at hl 5 rfl) ?_
      refine lv_iconst (v := -1) hx hb d_Mo_round_234 (by decide) ?_
      refine lv_ixor hx hb d_Mo_round_235 ?_
      refine lv_topi (fun x_51 _ => ?_)
      refine lv_iload hx hb d_Mo_round_236 (lv_at hl 7 rfl) ?_
      refine lv_iand hx hb d_Mo_round_238 ?_
      refine lv_topi (fun x_52 _ => ?_)
      refine lv_ixor hx hb d_Mo_round_239 ?_
      refine lv_topi (fun x_53 _ => ?_)
      refine lv_iadd hx hb d_Mo_round_240 ?_
      refine lv_topi (fun x_54 _ => ?_)
      refine va_gets hx hb hZ.2.2.2.2.2.2.2.1 hS hown (hT _ k_380) (fun _ h9 => h9) d_Mo_round_241 ?_
      refine lv_iload hx hb d_Mo_round_244 (lv_at hl 9 rfl) ?_
      refine va_ti hx hb hZ.2.2.2.2.2.2.2.2.1 hS (vp_in_nI (by omega) (by omega)) rfl d_Mo_round_246 ?_
      refine lv_topi (fun x_55 _ => ?_)
      refine lv_iadd hx hb d_Mo_round_247 ?_
      refine lv_topi (fun x_56 _ => ?_)
      refine lv_aload_n hx hb d_Mo_round_248 rfl (lv_at hl 0 rfl) ?_
      refine va_get (D := (dC, dI)) (ci := 11) (v := .ref m_w) (C := R_Mo) (T := F_Mo) (N := 56) hx hb hT i_Mo hown hK hP 0 rfl rfl 39 (by decide) (hT _ k_318) (fun _ h9 => h9) rfl d_Mo_round_249 ?_
      refine lv_iload hx hb d_Mo_round_252 (lv_at hl 9 rfl) ?_
      refine va_iald hx hb hK hP 1 0 rfl rfl (vp_in_nI (by omega) (by omega)) d_Mo_round_254 ?_
      refine lv_topi (fun x_57 _ => ?_)
      refine lv_iadd hx hb d_Mo_round_255 ?_
      refine lv_topi (fun x_58 _ => ?_)
      refine lv_istore (lv' := [(10, .int x_58), (0, .ref m0), (1, .int a), (2, .int b), (3, .int c9), (4, .int d), (5, .int e9), (6, .int f), (7, .int g), (8, .int h), (9, .int (nI i))]) hx hb d_Mo_round_256 hl (by decide) rfl (fun ls hl => ?_)
      refine lv_iload_n hx hb d_Mo_round_258 rfl (lv_at hl 2 rfl) ?_
      refine lv_iconst (v := 2) hx hb d_Mo_round_259 (by decide) ?_
      refine lv_iushr hx hb d_Mo_round_260 rfl ?_
      refine lv_topi (fun x_59 _ => ?_)
      refine lv_iload_n hx hb d_Mo_round_261 rfl (lv_at hl 2 rfl) ?_
      refine lv_bipush (v := 30) hx hb d_Mo_round_262 (by decide) ?_
      refine lv_ishl hx hb d_Mo_round_264 ?_
      refine lv_topi (fun x_60 _ => ?_)
      refine lv_ior hx hb d_Mo_round_265 ?_
      refine lv_topi (fun x_61 _ => ?_)
      refine lv_iload_n hx hb d_Mo_round_266 rfl (lv_at hl 2 rfl) ?_
      refine lv_bipush (v := 13) hx hb d_Mo_round_267 (by decide) ?_
      refine lv_iushr hx hb d_Mo_round_269 rfl ?_
      refine lv_topi (fun x_62 _ => ?_)
      refine lv_iload_n hx hb d_Mo_round_270 rfl (lv_at hl 2 rfl) ?_
      refine lv_bipush (v := 19) hx hb d_Mo_round_271 (by decide) ?_
      refine lv_ishl hx hb d_Mo_round_273 ?_
      refine lv_topi (fun x_63 _ => ?_)
      refine lv_ior hx hb d_Mo_round_274 ?_
      refine lv_topi (fun x_64 _ => ?_)
      refine lv_ixor hx hb d_Mo_round_275 ?_
      refine lv_topi (fun x_65 _ => ?_)
      refine lv_iload_n hx hb d_Mo_round_276 rfl (lv_at hl 2 rfl) ?_
      refine lv_bipush (v := 22) hx hb d_Mo_round_277 (by decide) ?_
      refine lv_iushr hx hb d_Mo_round_279 rfl ?_
      refine lv_topi (fun x_66 _ => ?_)
      refine lv_iload_n hx hb d_Mo_round_280 rfl (lv_at hl 2 rfl) ?_
      refine lv_bipush (v := 10) hx hb d_Mo_round_281 (by decide) ?_
      refine lv_ishl hx hb d_Mo_round_283 ?_
      refine lv_topi (fun x_67 _ => ?_)
      refine lv_ior hx hb d_Mo_round_284 ?_
      refine lv_topi (fun x_68 _ => ?_)
      refine lv_ixor hx hb d_Mo_round_285 ?_
      refine lv_topi (fun x_69 _ => ?_)
      refine lv_iload_n hx hb d_Mo_round_286 rfl (lv_at hl 2 rfl) ?_
      refine lv_iload_n hx hb d_Mo_round_287 rfl (lv_at hl 3 rfl) ?_
      refine lv_iand hx hb d_Mo_round_288 ?_
      refine lv_topi (fun x_70 _ => ?_)
      refine lv_iload_n hx hb d_Mo_round_289 rfl (lv_at hl 2 rfl) ?_
      refine lv_iload_n hx hb d_Mo_round_290 rfl (lv_at hl 4 rfl) ?_
      refine lv_iand hx hb d_Mo_round_291 ?_
      refine lv_topi (fun x_71 _ => ?_)
      refine lv_ixor hx hb d_Mo_round_292 ?_
      refine lv_topi (fun x_72 _ => ?_)
      refine lv_iload_n hx hb d_Mo_round_293 rfl (lv_at hl 3 rfl) ?_
      refine lv_iload_n hx hb d_Mo_round_294 rfl (lv_at hl 4 rfl) ?_
      refine lv_iand hx hb d_Mo_round_295 ?_
      refine lv_topi (fun x_73 _ => ?_)
      refine lv_ixor hx hb d_Mo_round_296 ?_
      refine lv_topi (fun x_74 _ => ?_)
      refine lv_iadd hx hb d_Mo_round_297 ?_
      refine lv_topi (fun x_75 _ => ?_)
      refine lv_istore (lv' := [(11, .int x_75), (10, .int x_58), (0, .ref m0), (1, .int a), (2, .int b), (3, .int c9), (4, .int d), (5, .int e9), (6, .int f), (7, .int g), (8, .int h), (9, .int (nI i))]) hx hb d_Mo_round_298 hl (by decide) rfl (fun ls hl => ?_)
      refine lv_iload hx hb d_Mo_round_300 (lv_at hl 9 rfl) ?_
      refine lv_istore (lv' := [(8, .int g), (11, .int x_75), (10, .int x_58), (0, .ref m0), (1, .int a), (2, .int b), (3, .int c9), (4, .int d), (5, .int e9), (6, .int f), (7, .int g), (9, .int (nI i))]) hx hb d_Mo_round_302 hl (by decide) rfl (fun ls hl => ?_)
      refine lv_iload hx hb d_Mo_round_304 (lv_at hl 9 rfl) ?_
      refine lv_istore (lv' := [(7, .int f), (8, .int g), (11, .int x_75), (10, .int x_58), (0, .ref m0), (1, .int a), (2, .int b), (3, .int c9), (4, .int d), (5, .int e9), (6, .int f), (9, .int (nI i))]) hx hb d_Mo_round_306 hl (by decide) rfl (fun ls hl => ?_)
      refine lv_iload hx hb d_Mo_round_308 (lv_at hl 9 rfl) ?_
      refine lv_istore (lv' := [(6, .int e9), (7, .int f), (8, .int g), (11, .int x_75), (10, .int x_58), (0, .ref m0), (1, .int a), (2, .int b), (3, .int c9), (4, .int d), (5, .int e9), (9, .int (nI i))]) hx hb d_Mo_round_310 hl (by decide) rfl (fun ls hl => ?_)
      refine lv_iload hx hb d_Mo_round_312 (lv_at hl 9 rfl) ?_
      refine lv_iload hx hb d_Mo_round_314 (lv_at hl 4 rfl) ?_
      refine lv_iadd hx hb d_Mo_round_316 ?_
      refine lv_topi (fun x_76 _ => ?_)
      refine lv_istore (lv' := [(5, .int x_76), (6, .int e9), (7, .int f), (8, .int g), (11, .int x_75), (10, .int x_58), (0, .ref m0), (1, .int a), (2, .int b), (3, .int c9), (4, .int d), (9, .int (nI i))]) hx hb d_Mo_round_317 hl (by decide) rfl (fun ls hl => ?_)
      refine lv_iload_n hx hb d_Mo_round_319 rfl (lv_at hl 9 rfl) ?_
      refine lv_istore (lv' := [(4, .int c9), (5, .int x_76), (6, .int e9), (7, .int f), (8, .int g), (11, .int x_75), (10, .int x_58), (0, .ref m0), (1, .int a), (2, .int b), (3, .int c9), (9, .int (nI i))]) hx hb d_Mo_round_320 hl (by decide) rfl (fun ls hl => ?_)
      refine lv_iload_n hx hb d_Mo_round_322 rfl (lv_at hl 9 rfl) ?_
      refine lv_istore_n (lv' := [(3, .int b), (4, .int c9), (5, .int x_76), (6, .int e9), (7, .int f), (8, .int g), (11, .int x_75), (10, .int x_58), (0, .ref m0), (1, .int a), (2, .int b), (9, .int (nI i))]) hx hb d_Mo_round_323 rfl hl (by decide) rfl (fun ls hl => ?_)
      refine lv_iload_n hx hb d_Mo_round_324 rfl (lv_at hl 9 rfl) ?_
      refine lv_istore_n (lv' := [(2, .int a), (3, .int b), (4, .int c9), (5, .int x_76), (6, .int e9), (7, .int f), (8, .int g), (11, .int x_75), (10, .int x_58), (0, .ref m0), (1, .int a), (9, .int (nI i))]) hx hb d_Mo_round_325 rfl hl (by decide) rfl (fun ls hl => ?_)
      refine lv_iload hx hb d_Mo_round_326 (lv_at hl 8 rfl) ?_
      refine lv_iload hx hb d_Mo_round_328 (lv_at hl 7 rfl) ?_
      refine lv_iadd hx hb d_Mo_round_330 ?_
      refine lv_topi (fun x_77 _ => ?_)
      refine lv_istore_n (lv' := [(1, .int x_77), (2, .int a), (3, .int b), (4, .int c9), (5, .int x_76), (6, .int e9), (7, .int f), (8, .int g), (11, .int x_75), (10, .int x_58), (0, .ref m0), (9, .int (nI i))]) hx hb d_Mo_round_331 rfl hl (by decide) rfl (fun ls hl => ?_)
      refine lv_iinc (v := (nI (i + 1))) (lv' := [(9, .int (nI (i + 1))), (1, .int x_77), (2, .int a), (3, .int b), (4, .int c9), (5, .int x_76), (6, .int e9), (7, .int f), (8, .int g), (11, .int x_75), (10, .int x_58), (0, .ref m0)]) hx hb d_Mo_round_332 hl (k := 11) rfl (nI_add (i) 1) (by decide) rfl (fun ls hl => ?_)
      refine lv_goto (tgt := 182) hx hb d_Mo_round_335 (by decide) ?_
      exact ih_182 (i + 1) x_77 a b c9 x_76 e9 f g _ _ _ (by omega) (by omega)  hP hD hS (lv_sub hl [11, 1, 2, 3, 4, 5, 6, 7, 8, 0] rfl) kx_182
  refine lp182_37 _ (64 - 0) 0 x_29 x_30 x_31 x_32 x_33 x_34 x_35 x_36 _ _ _ (by omega) (by omega)  hP hD hS (lv_sub hl [9, 8, 7, 6, 5, 4, 3, 2, 1, 0] rfl) (fun x_78 x_79 x_80 x_81 x_82 x_83 x_84 x_85 H locs ls  hP hD hS hl => ?_)
  refine lv_aload_n hx hb d_Mo_round_338 rfl (lv_at hl 0 rfl) ?_
  refine va_get (D := (dC, dI)) (ci := 11) (v := .ref m_h) (C := R_Mo) (T := F_Mo) (N := 56) hx hb hT i_Mo hown hK hP 0 rfl rfl 40 (by decide) (hT _ k_319) (fun _ h9 => h9) rfl d_Mo_round_339 ?_
  refine lv_iconst (v := 0) hx hb d_Mo_round_342 (by decide) ?_
  refine lv_dup2_11 hx hb d_Mo_round_343 rfl rfl ?_
  refine va_iald hx hb hK hP 2 1 rfl rfl (by unfold vp_in; decide) d_Mo_round_344 ?_
  refine lv_topi (fun x_86 _ => ?_)
  refine lv_iload_n hx hb d_Mo_round_345 rfl (lv_at hl 1 rfl) ?_
  refine lv_iadd hx hb d_Mo_round_346 ?_
  refine lv_topi (fun x_87 _ => ?_)
  refine zz_iast hx hb hK hP hD hS 2 1 rfl rfl (by unfold vp_in; decide) d_Mo_round_347 (fun f_88 H locs hP hD hS => ?_)
  have hP : va_P (dC, dI) cl_all [(m0, .inr (11, (.ref m_mem :: .int 0 :: .int 0 :: .int 0 :: .ref m_at :: .ref m_length :: .ref m_parent :: .ref m_height :: .ref m_time :: .ref m_target :: .ref m_work :: .ref m_arrival :: .ref m_sound :: .ref m_firstTx :: .ref m_txs :: .ref m_blockId :: .int 1 :: .int 0 :: .int 0 :: .int 0 :: .int 0 :: .ref m_heldLength :: .ref m_heldArrival :: .ref m_heldId :: .int 0 :: .ref m_ids :: .ref m_poolLength :: .ref m_poolFee :: .int 0 :: .int 0 :: .int 0 :: .ref m_inId :: .ref m_inIndex :: .ref m_keyAt :: .ref m_keyLength :: .int 0 :: .ref m_outValue :: .ref m_lockAt :: .ref m_lockLength :: .ref m_w :: .ref m_h :: .ref m_once :: .ref m_digest :: .ref m_signHash :: .ref m_buffer :: .ref m_merkle :: .ref m_stack :: .ref m_sizes :: .int 0 :: .ref m_branch :: .ref m_tipCoins :: .ref m_poolCoins :: .ref m_workCoins :: .ref m_path :: .ref m_order :: .ref m_spent :: []))), (m_w, .inl (e10, 64, .inl f_28)), (m_h, .inl (e11, 8, .inl f_88))] H := hP
  have hD : va_D A [(m0, .inr (11, (.ref m_mem :: .int 0 :: .int 0 :: .int 0 :: .ref m_at :: .ref m_length :: .ref m_parent :: .ref m_height :: .ref m_time :: .ref m_target :: .ref m_work :: .ref m_arrival :: .ref m_sound :: .ref m_firstTx :: .ref m_txs :: .ref m_blockId :: .int 1 :: .int 0 :: .int 0 :: .int 0 :: .int 0 :: .ref m_heldLength :: .ref m_heldArrival :: .ref m_heldId :: .int 0 :: .ref m_ids :: .ref m_poolLength :: .ref m_poolFee :: .int 0 :: .int 0 :: .int 0 :: .ref m_inId :: .ref m_inIndex :: .ref m_keyAt :: .ref m_keyLength :: .int 0 :: .ref m_outValue :: .ref m_lockAt :: .ref m_lockLength :: .ref m_w :: .ref m_h :: .ref m_once :: .ref m_digest :: .ref m_signHash :: .ref m_buffer :: .ref m_merkle :: .ref m_stack :: .ref m_sizes :: .int 0 :: .ref m_branch :: .ref m_tipCoins :: .ref m_poolCoins :: .ref m_workCoins :: .ref m_path :: .ref m_order :: .ref m_spent :: []))), (m_w, .inl (e10, 64, .inl f_28)), (m_h, .inl (e11, 8, .inl f_88))] := hD
  refine lv_aload_n hx hb d_Mo_round_348 rfl (lv_at hl 0 rfl) ?_
  refine va_get (D := (dC, dI)) (ci := 11) (v := .ref m_h) (C := R_Mo) (T := F_Mo) (N := 56) hx hb hT i_Mo hown hK hP 0 rfl rfl 40 (by decide) (hT _ k_319) (fun _ h9 => h9) rfl d_Mo_round_349 ?_
  refine lv_iconst (v := 1) hx hb d_Mo_round_352 (by decide) ?_
  refine lv_dup2_11 hx hb d_Mo_round_353 rfl rfl ?_
  refine va_iald hx hb hK hP 2 1 rfl rfl (by unfold vp_in; decide) d_Mo_round_354 ?_
  refine lv_topi (fun x_89 _ => ?_)
  refine lv_iload_n hx hb d_Mo_round_355 rfl (lv_at hl 2 rfl) ?_
  refine lv_iadd hx hb d_Mo_round_356 ?_
  refine lv_topi (fun x_90 _ => ?_)
  refine zz_iast hx hb hK hP hD hS 2 1 rfl rfl (by unfold vp_in; decide) d_Mo_round_357 (fun f_91 H locs hP hD hS => ?_)
  have hP : va_P (dC, dI) cl_all [(m0, .inr (11, (.ref m_mem :: .int 0 :: .int 0 :: .int 0 :: .ref m_at :: .ref m_length :: .ref m_parent :: .ref m_height :: .ref m_time :: .ref m_target :: .ref m_work :: .ref m_arrival :: .ref m_sound :: .ref m_firstTx :: .ref m_txs :: .ref m_blockId :: .int 1 :: .int 0 :: .int 0 :: .int 0 :: .int 0 :: .ref m_heldLength :: .ref m_heldArrival :: .ref m_heldId :: .int 0 :: .ref m_ids :: .ref m_poolLength :: .ref m_poolFee :: .int 0 :: .int 0 :: .int 0 :: .ref m_inId :: .ref m_inIndex :: .ref m_keyAt :: .ref m_keyLength :: .int 0 :: .ref m_outValue :: .ref m_lockAt :: .ref m_lockLength :: .ref m_w :: .ref m_h :: .ref m_once :: .ref m_digest :: .ref m_signHash :: .ref m_buffer :: .ref m_merkle :: .ref m_stack :: .ref m_sizes :: .int 0 :: .ref m_branch :: .ref m_tipCoins :: .ref m_poolCoins :: .ref m_workCoins :: .ref m_path :: .ref m_order :: .ref m_spent :: []))), (m_w, .inl (e10, 64, .inl f_28)), (m_h, .inl (e11, 8, .inl f_91))] H := hP
  have hD : va_D A [(m0, .inr (11, (.ref m_mem :: .int 0 :: .int 0 :: .int 0 :: .ref m_at :: .ref m_length :: .ref m_parent :: .ref m_height :: .ref m_time :: .ref m_target :: .ref m_work :: .ref m_arrival :: .ref m_sound :: .ref m_firstTx :: .ref m_txs :: .ref m_blockId :: .int 1 :: .int 0 :: .int 0 :: .int 0 :: .int 0 :: .ref m_heldLength :: .ref m_heldArrival :: .ref m_heldId :: .int 0 :: .ref m_ids :: .ref m_poolLength :: .ref m_poolFee :: .int 0 :: .int 0 :: .int 0 :: .ref m_inId :: .ref m_inIndex :: .ref m_keyAt :: .ref m_keyLength :: .int 0 :: .ref m_outValue :: .ref m_lockAt :: .ref m_lockLength :: .ref m_w :: .ref m_h :: .ref m_once :: .ref m_digest :: .ref m_signHash :: .ref m_buffer :: .ref m_merkle :: .ref m_stack :: .ref m_sizes :: .int 0 :: .ref m_branch :: .ref m_tipCoins :: .ref m_poolCoins :: .ref m_workCoins :: .ref m_path :: .ref m_order :: .ref m_spent :: []))), (m_w, .inl (e10, 64, .inl f_28)), (m_h, .inl (e11, 8, .inl f_91))] := hD
  refine lv_aload_n hx hb d_Mo_round_358 rfl (lv_at hl 0 rfl) ?_
  refine va_get (D := (dC, dI)) (ci := 11) (v := .ref m_h) (C := R_Mo) (T := F_Mo) (N := 56) hx hb hT i_Mo hown hK hP 0 rfl rfl 40 (by decide) (hT _ k_319) (fun _ h9 => h9) rfl d_Mo_round_359 ?_
  refine lv_iconst (v := 2) hx hb d_Mo_round_362 (by decide) ?_
  refine lv_dup2_11 hx hb d_Mo_round_363 rfl rfl ?_
  refine va_iald hx hb hK hP 2 1 rfl rfl (by unfold vp_in; decide) d_Mo_round_364 ?_
  refine lv_topi (fun x_92 _ => ?_)
  refine lv_iload_n hx hb d_Mo_round_365 rfl (lv_at hl 3 rfl) ?_
  refine lv_iadd hx hb d_Mo_round_366 ?_
  refine lv_topi (fun x_93 _ => ?_)
  refine zz_iast hx hb hK hP hD hS 2 1 rfl rfl (by unfold vp_in; decide) d_Mo_round_367 (fun f_94 H locs hP hD hS => ?_)
  have hP : va_P (dC, dI) cl_all [(m0, .inr (11, (.ref m_mem :: .int 0 :: .int 0 :: .int 0 :: .ref m_at :: .ref m_length :: .ref m_parent :: .ref m_height :: .ref m_time :: .ref m_target :: .ref m_work :: .ref m_arrival :: .ref m_sound :: .ref m_firstTx :: .ref m_txs :: .ref m_blockId :: .int 1 :: .int 0 :: .int 0 :: .int 0 :: .int 0 :: .ref m_heldLength :: .ref m_heldArrival :: .ref m_heldId :: .int 0 :: .ref m_ids :: .ref m_poolLength :: .ref m_poolFee :: .int 0 :: .int 0 :: .int 0 :: .ref m_inId :: .ref m_inIndex :: .ref m_keyAt :: .ref m_keyLength :: .int 0 :: .ref m_outValue :: .ref m_lockAt :: .ref m_lockLength :: .ref m_w :: .ref m_h :: .ref m_once :: .ref m_digest :: .ref m_signHash :: .ref m_buffer :: .ref m_merkle :: .ref m_stack :: .ref m_sizes :: .int 0 :: .ref m_branch :: .ref m_tipCoins :: .ref m_poolCoins :: .ref m_workCoins :: .ref m_path :: .ref m_order :: .ref m_spent :: []))), (m_w, .inl (e10, 64, .inl f_28)), (m_h, .inl (e11, 8, .inl f_94))] H := hP
  have hD : va_D A [(m0, .inr (11, (.ref m_mem :: .int 0 :: .int 0 :: .int 0 :: .ref m_at :: .ref m_length :: .ref m_parent :: .ref m_height :: .ref m_time :: .ref m_target :: .ref m_work :: .ref m_arrival :: .ref m_sound :: .ref m_firstTx :: .ref m_txs :: .ref m_blockId :: .int 1 :: .int 0 :: .int 0 :: .int 0 :: .int 0 :: .ref m_heldLength :: .ref m_heldArrival :: .ref m_heldId :: .int 0 :: .ref m_ids :: .ref m_poolLength :: .ref m_poolFee :: .int 0 :: .int 0 :: .int 0 :: .ref m_inId :: .ref m_inIndex :: .ref m_keyAt :: .ref m_keyLength :: .int 0 :: .ref m_outValue :: .ref m_lockAt :: .ref m_lockLength :: .ref m_w :: .ref m_h :: .ref m_once :: .ref m_digest :: .ref m_signHash :: .ref m_buffer :: .ref m_merkle :: .ref m_stack :: .ref m_sizes :: .int 0 :: .ref m_branch :: .ref m_tipCoins :: .ref m_poolCoins :: .ref m_workCoins :: .ref m_path :: .ref m_order :: .ref m_spent :: []))), (m_w, .inl (e10, 64, .inl f_28)), (m_h, .inl (e11, 8, .inl f_94))] := hD
  refine lv_aload_n hx hb d_Mo_round_368 rfl (lv_at hl 0 rfl) ?_
  refine va_get (D := (dC, dI)) (ci := 11) (v := .ref m_h) (C := R_Mo) (T := F_Mo) (N := 56) hx hb hT i_Mo hown hK hP 0 rfl rfl 40 (by decide) (hT _ k_319) (fun _ h9 => h9) rfl d_Mo_round_369 ?_
  refine lv_iconst (v := 3) hx hb d_Mo_round_372 (by decide) ?_
  refine lv_dup2_11 hx hb d_Mo_round_373 rfl rfl ?_
  refine va_iald hx hb hK hP 2 1 rfl rfl (by unfold vp_in; decide) d_Mo_round_374 ?_
  refine lv_topi (fun x_95 _ => ?_)
  refine lv_iload hx hb d_Mo_round_375 (lv_at hl 4 rfl) ?_
  refine lv_iadd hx hb d_Mo_round_377 ?_
  refine lv_topi (fun x_96 _ => ?_)
  refine zz_iast hx hb hK hP hD hS 2 1 rfl rfl (by unfold vp_in; decide) d_Mo_round_378 (fun f_97 H locs hP hD hS => ?_)
  have hP : va_P (dC, dI) cl_all [(m0, .inr (11, (.ref m_mem :: .int 0 :: .int 0 :: .int 0 :: .ref m_at :: .ref m_length :: .ref m_parent :: .ref m_height :: .ref m_time :: .ref m_target :: .ref m_work :: .ref m_arrival :: .ref m_sound :: .ref m_firstTx :: .ref m_txs :: .ref m_blockId :: .int 1 :: .int 0 :: .int 0 :: .int 0 :: .int 0 :: .ref m_heldLength :: .ref m_heldArrival :: .ref m_heldId :: .int 0 :: .ref m_ids :: .ref m_poolLength :: .ref m_poolFee :: .int 0 :: .int 0 :: .int 0 :: .ref m_inId :: .ref m_inIndex :: .ref m_keyAt :: .ref m_keyLength :: .int 0 :: .ref m_outValue :: .ref m_lockAt :: .ref m_lockLength :: .ref m_w :: .ref m_h :: .ref m_once :: .ref m_digest :: .ref m_signHash :: .ref m_buffer :: .ref m_merkle :: .ref m_stack :: .ref m_sizes :: .int 0 :: .ref m_branch :: .ref m_tipCoins :: .ref m_poolCoins :: .ref m_workCoins :: .ref m_path :: .ref m_order :: .ref m_spent :: []))), (m_w, .inl (e10, 64, .inl f_28)), (m_h, .inl (e11, 8, .inl f_97))] H := hP
  have hD : va_D A [(m0, .inr (11, (.ref m_mem :: .int 0 :: .int 0 :: .int 0 :: .ref m_at :: .ref m_length :: .ref m_parent :: .ref m_height :: .ref m_time :: .ref m_target :: .ref m_work :: .ref m_arrival :: .ref m_sound :: .ref m_firstTx :: .ref m_txs :: .ref m_blockId :: .int 1 :: .int 0 :: .int 0 :: .int 0 :: .int 0 :: .ref m_heldLength :: .ref m_heldArrival :: .ref m_heldId :: .int 0 :: .ref m_ids :: .ref m_poolLength :: .ref m_poolFee :: .int 0 :: .int 0 :: .int 0 :: .ref m_inId :: .ref m_inIndex :: .ref m_keyAt :: .ref m_keyLength :: .int 0 :: .ref m_outValue :: .ref m_lockAt :: .ref m_lockLength :: .ref m_w :: .ref m_h :: .ref m_once :: .ref m_digest :: .ref m_signHash :: .ref m_buffer :: .ref m_merkle :: .ref m_stack :: .ref m_sizes :: .int 0 :: .ref m_branch :: .ref m_tipCoins :: .ref m_poolCoins :: .ref m_workCoins :: .ref m_path :: .ref m_order :: .ref m_spent :: []))), (m_w, .inl (e10, 64, .inl f_28)), (m_h, .inl (e11, 8, .inl f_97))] := hD
  refine lv_aload_n hx hb d_Mo_round_379 rfl (lv_at hl 0 rfl) ?_
  refine va_get (D := (dC, dI)) (ci := 11) (v := .ref m_h) (C := R_Mo) (T := F_Mo) (N := 56) hx hb hT i_Mo hown hK hP 0 rfl rfl 40 (by decide) (hT _ k_319) (fun _ h9 => h9) rfl d_Mo_round_380 ?_
  refine lv_iconst (v := 4) hx hb d_Mo_round_383 (by decide) ?_
  refine lv_dup2_11 hx hb d_Mo_round_384 rfl rfl ?_
  refine va_iald hx hb hK hP 2 1 rfl rfl (by unfold vp_in; decide) d_Mo_round_385 ?_
  refine lv_topi (fun x_98 _ => ?_)
  refine lv_iload hx hb d_Mo_round_386 (lv_at hl 5 rfl) ?_
  refine lv_iadd hx hb d_Mo_round_388 ?_
  refine lv_topi (fun x_99 _ => ?_)
  refine zz_iast hx hb hK hP hD hS 2 1 rfl rfl (by unfold vp_in; decide) d_Mo_round_389 (fun f_100 H locs hP hD hS => ?_)
  have hP : va_P (dC, dI) cl_all [(m0, .inr (11, (.ref m_mem :: .int 0 :: .int 0 :: .int 0 :: .ref m_at :: .ref m_length :: .ref m_parent :: .ref m_height :: .ref m_time :: .ref m_target :: .ref m_work :: .ref m_arrival :: .ref m_sound :: .ref m_firstTx :: .ref m_txs :: .ref m_blockId :: .int 1 :: .int 0 :: .int 0 :: .int 0 :: .int 0 :: .ref m_heldLength :: .ref m_heldArrival :: .ref m_heldId :: .int 0 :: .ref m_ids :: .ref m_poolLength :: .ref m_poolFee :: .int 0 :: .int 0 :: .int 0 :: .ref m_inId :: .ref m_inIndex :: .ref m_keyAt :: .ref m_keyLength :: .int 0 :: .ref m_outValue :: .ref m_lockAt :: .ref m_lockLength :: .ref m_w :: .ref m_h :: .ref m_once :: .ref m_digest :: .ref m_signHash :: .ref m_buffer :: .ref m_merkle :: .ref m_stack :: .ref m_sizes :: .int 0 :: .ref m_branch :: .ref m_tipCoins :: .ref m_poolCoins :: .ref m_workCoins :: .ref m_path :: .ref m_order :: .ref m_spent :: []))), (m_w, .inl (e10, 64, .inl f_28)), (m_h, .inl (e11, 8, .inl f_100))] H := hP
  have hD : va_D A [(m0, .inr (11, (.ref m_mem :: .int 0 :: .int 0 :: .int 0 :: .ref m_at :: .ref m_length :: .ref m_parent :: .ref m_height :: .ref m_time :: .ref m_target :: .ref m_work :: .ref m_arrival :: .ref m_sound :: .ref m_firstTx :: .ref m_txs :: .ref m_blockId :: .int 1 :: .int 0 :: .int 0 :: .int 0 :: .int 0 :: .ref m_heldLength :: .ref m_heldArrival :: .ref m_heldId :: .int 0 :: .ref m_ids :: .ref m_poolLength :: .ref m_poolFee :: .int 0 :: .int 0 :: .int 0 :: .ref m_inId :: .ref m_inIndex :: .ref m_keyAt :: .ref m_keyLength :: .int 0 :: .ref m_outValue :: .ref m_lockAt :: .ref m_lockLength :: .ref m_w :: .ref m_h :: .ref m_once :: .ref m_digest :: .ref m_signHash :: .ref m_buffer :: .ref m_merkle :: .ref m_stack :: .ref m_sizes :: .int 0 :: .ref m_branch :: .ref m_tipCoins :: .ref m_poolCoins :: .ref m_workCoins :: .ref m_path :: .ref m_order :: .ref m_spent :: []))), (m_w, .inl (e10, 64, .inl f_28)), (m_h, .inl (e11, 8, .inl f_100))] := hD
  refine lv_aload_n hx hb d_Mo_round_390 rfl (lv_at hl 0 rfl) ?_
  refine va_get (D := (dC, dI)) (ci := 11) (v := .ref m_h) (C := R_Mo) (T := F_Mo) (N := 56) hx hb hT i_Mo hown hK hP 0 rfl rfl 40 (by decide) (hT _ k_319) (fun _ h9 => h9) rfl d_Mo_round_391 ?_
  refine lv_iconst (v := 5) hx hb d_Mo_round_394 (by decide) ?_
  refine lv_dup2_11 hx hb d_Mo_round_395 rfl rfl ?_
  refine va_iald hx hb hK hP 2 1 rfl rfl (by unfold vp_in; decide) d_Mo_round_396 ?_
  refine lv_topi (fun x_101 _ => ?_)
  refine lv_iload hx hb d_Mo_round_397 (lv_at hl 6 rfl) ?_
  refine lv_iadd hx hb d_Mo_round_399 ?_
  refine lv_topi (fun x_102 _ => ?_)
  refine zz_iast hx hb hK hP hD hS 2 1 rfl rfl (by unfold vp_in; decide) d_Mo_round_400 (fun f_103 H locs hP hD hS => ?_)
  have hP : va_P (dC, dI) cl_all [(m0, .inr (11, (.ref m_mem :: .int 0 :: .int 0 :: .int 0 :: .ref m_at :: .ref m_length :: .ref m_parent :: .ref m_height :: .ref m_time :: .ref m_target :: .ref m_work :: .ref m_arrival :: .ref m_sound :: .ref m_firstTx :: .ref m_txs :: .ref m_blockId :: .int 1 :: .int 0 :: .int 0 :: .int 0 :: .int 0 :: .ref m_heldLength :: .ref m_heldArrival :: .ref m_heldId :: .int 0 :: .ref m_ids :: .ref m_poolLength :: .ref m_poolFee :: .int 0 :: .int 0 :: .int 0 :: .ref m_inId :: .ref m_inIndex :: .ref m_keyAt :: .ref m_keyLength :: .int 0 :: .ref m_outValue :: .ref m_lockAt :: .ref m_lockLength :: .ref m_w :: .ref m_h :: .ref m_once :: .ref m_digest :: .ref m_signHash :: .ref m_buffer :: .ref m_merkle :: .ref m_stack :: .ref m_sizes :: .int 0 :: .ref m_branch :: .ref m_tipCoins :: .ref m_poolCoins :: .ref m_workCoins :: .ref m_path :: .ref m_order :: .ref m_spent :: []))), (m_w, .inl (e10, 64, .inl f_28)), (m_h, .inl (e11, 8, .inl f_103))] H := hP
  have hD : va_D A [(m0, .inr (11, (.ref m_mem :: .int 0 :: .int 0 :: .int 0 :: .ref m_at :: .ref m_length :: .ref m_parent :: .ref m_height :: .ref m_time :: .ref m_target :: .ref m_work :: .ref m_arrival :: .ref m_sound :: .ref m_firstTx :: .ref m_txs :: .ref m_blockId :: .int 1 :: .int 0 :: .int 0 :: .int 0 :: .int 0 :: .ref m_heldLength :: .ref m_heldArrival :: .ref m_heldId :: .int 0 :: .ref m_ids :: .ref m_poolLength :: .ref m_poolFee :: .int 0 :: .int 0 :: .int 0 :: .ref m_inId :: .ref m_inIndex :: .ref m_keyAt :: .ref m_keyLength :: .int 0 :: .ref m_outValue :: .ref m_lockAt :: .ref m_lockLength :: .ref m_w :: .ref m_h :: .ref m_once :: .ref m_digest :: .ref m_signHash :: .ref m_buffer :: .ref m_merkle :: .ref m_stack :: .ref m_sizes :: .int 0 :: .ref m_branch :: .ref m_tipCoins :: .ref m_poolCoins :: .ref m_workCoins :: .ref m_path :: .ref m_order :: .ref m_spent :: []))), (m_w, .inl (e10, 64, .inl f_28)), (m_h, .inl (e11, 8, .inl f_103))] := hD
  refine lv_aload_n hx hb d_Mo_round_401 rfl (lv_at hl 0 rfl) ?_
  refine va_get (D := (dC, dI)) (ci := 11) (v := .ref m_h) (C := R_Mo) (T := F_Mo) (N := 56) hx hb hT i_Mo hown hK hP 0 rfl rfl 40 (by decide) (hT _ k_319) (fun _ h9 => h9) rfl d_Mo_round_402 ?_
  refine lv_bipush (v := 6) hx hb d_Mo_round_405 (by decide) ?_
  refine lv_dup2_11 hx hb d_Mo_round_407 rfl rfl ?_
  refine va_iald hx hb hK hP 2 1 rfl rfl (by unfold vp_in; decide) d_Mo_round_408 ?_
  refine lv_topi (fun x_104 _ => ?_)
  refine lv_iload hx hb d_Mo_round_409 (lv_at hl 7 rfl) ?_
  refine lv_iadd hx hb d_Mo_round_411 ?_
  refine lv_topi (fun x_105 _ => ?_)
  refine zz_iast hx hb hK hP hD hS 2 1 rfl rfl (by unfold vp_in; decide) d_Mo_round_412 (fun f_106 H locs hP hD hS => ?_)
  have hP : va_P (dC, dI) cl_all [(m0, .inr (11, (.ref m_mem :: .int 0 :: .int 0 :: .int 0 :: .ref m_at :: .ref m_length :: .ref m_parent :: .ref m_height :: .ref m_time :: .ref m_target :: .ref m_work :: .ref m_arrival :: .ref m_sound :: .ref m_firstTx :: .ref m_txs :: .ref m_blockId :: .int 1 :: .int 0 :: .int 0 :: .int 0 :: .int 0 :: .ref m_heldLength :: .ref m_heldArrival :: .ref m_heldId :: .int 0 :: .ref m_ids :: .ref m_poolLength :: .ref m_poolFee :: .int 0 :: .int 0 :: .int 0 :: .ref m_inId :: .ref m_inIndex :: .ref m_keyAt :: .ref m_keyLength :: .int 0 :: .ref m_outValue :: .ref m_lockAt :: .ref m_lockLength :: .ref m_w :: .ref m_h :: .ref m_once :: .ref m_digest :: .ref m_signHash :: .ref m_buffer :: .ref m_merkle :: .ref m_stack :: .ref m_sizes :: .int 0 :: .ref m_branch :: .ref m_tipCoins :: .ref m_poolCoins :: .ref m_workCoins :: .ref m_path :: .ref m_order :: .ref m_spent :: []))), (m_w, .inl (e10, 64, .inl f_28)), (m_h, .inl (e11, 8, .inl f_106))] H := hP
  have hD : va_D A [(m0, .inr (11, (.ref m_mem :: .int 0 :: .int 0 :: .int 0 :: .ref m_at :: .ref m_length :: .ref m_parent :: .ref m_height :: .ref m_time :: .ref m_target :: .ref m_work :: .ref m_arrival :: .ref m_sound :: .ref m_firstTx :: .ref m_txs :: .ref m_blockId :: .int 1 :: .int 0 :: .int 0 :: .int 0 :: .int 0 :: .ref m_heldLength :: .ref m_heldArrival :: .ref m_heldId :: .int 0 :: .ref m_ids :: .ref m_poolLength :: .ref m_poolFee :: .int 0 :: .int 0 :: .int 0 :: .ref m_inId :: .ref m_inIndex :: .ref m_keyAt :: .ref m_keyLength :: .int 0 :: .ref m_outValue :: .ref m_lockAt :: .ref m_lockLength :: .ref m_w :: .ref m_h :: .ref m_once :: .ref m_digest :: .ref m_signHash :: .ref m_buffer :: .ref m_merkle :: .ref m_stack :: .ref m_sizes :: .int 0 :: .ref m_branch :: .ref m_tipCoins :: .ref m_poolCoins :: .ref m_workCoins :: .ref m_path :: .ref m_order :: .ref m_spent :: []))), (m_w, .inl (e10, 64, .inl f_28)), (m_h, .inl (e11, 8, .inl f_106))] := hD
  refine lv_aload_n hx hb d_Mo_round_413 rfl (lv_at hl 0 rfl) ?_
  refine va_get (D := (dC, dI)) (ci := 11) (v := .ref m_h) (C := R_Mo) (T := F_Mo) (N := 56) hx hb hT i_Mo hown hK hP 0 rfl rfl 40 (by decide) (hT _ k_319) (fun _ h9 => h9) rfl d_Mo_round_414 ?_
  refine lv_bipush (v := 7) hx hb d_Mo_round_417 (by decide) ?_
  refine lv_dup2_11 hx hb d_Mo_round_419 rfl rfl ?_
  refine va_iald hx hb hK hP 2 1 rfl rfl (by unfold vp_in; decide) d_Mo_round_420 ?_
  refine lv_topi (fun x_107 _ => ?_)
  refine lv_iload hx hb d_Mo_round_421 (lv_at hl 8 rfl) ?_
  refine lv_iadd hx hb d_Mo_round_423 ?_
  refine lv_topi (fun x_108 _ => ?_)
  refine zz_iast hx hb hK hP hD hS 2 1 rfl rfl (by unfold vp_in; decide) d_Mo_round_424 (fun f_109 H locs hP hD hS => ?_)
  have hP : va_P (dC, dI) cl_all [(m0, .inr (11, (.ref m_mem :: .int 0 :: .int 0 :: .int 0 :: .ref m_at :: .ref m_length :: .ref m_parent :: .ref m_height :: .ref m_time :: .ref m_target :: .ref m_work :: .ref m_arrival :: .ref m_sound :: .ref m_firstTx :: .ref m_txs :: .ref m_blockId :: .int 1 :: .int 0 :: .int 0 :: .int 0 :: .int 0 :: .ref m_heldLength :: .ref m_heldArrival :: .ref m_heldId :: .int 0 :: .ref m_ids :: .ref m_poolLength :: .ref m_poolFee :: .int 0 :: .int 0 :: .int 0 :: .ref m_inId :: .ref m_inIndex :: .ref m_keyAt :: .ref m_keyLength :: .int 0 :: .ref m_outValue :: .ref m_lockAt :: .ref m_lockLength :: .ref m_w :: .ref m_h :: .ref m_once :: .ref m_digest :: .ref m_signHash :: .ref m_buffer :: .ref m_merkle :: .ref m_stack :: .ref m_sizes :: .int 0 :: .ref m_branch :: .ref m_tipCoins :: .ref m_poolCoins :: .ref m_workCoins :: .ref m_path :: .ref m_order :: .ref m_spent :: []))), (m_w, .inl (e10, 64, .inl f_28)), (m_h, .inl (e11, 8, .inl f_109))] H := hP
  have hD : va_D A [(m0, .inr (11, (.ref m_mem :: .int 0 :: .int 0 :: .int 0 :: .ref m_at :: .ref m_length :: .ref m_parent :: .ref m_height :: .ref m_time :: .ref m_target :: .ref m_work :: .ref m_arrival :: .ref m_sound :: .ref m_firstTx :: .ref m_txs :: .ref m_blockId :: .int 1 :: .int 0 :: .int 0 :: .int 0 :: .int 0 :: .ref m_heldLength :: .ref m_heldArrival :: .ref m_heldId :: .int 0 :: .ref m_ids :: .ref m_poolLength :: .ref m_poolFee :: .int 0 :: .int 0 :: .int 0 :: .ref m_inId :: .ref m_inIndex :: .ref m_keyAt :: .ref m_keyLength :: .int 0 :: .ref m_outValue :: .ref m_lockAt :: .ref m_lockLength :: .ref m_w :: .ref m_h :: .ref m_once :: .ref m_digest :: .ref m_signHash :: .ref m_buffer :: .ref m_merkle :: .ref m_stack :: .ref m_sizes :: .int 0 :: .ref m_branch :: .ref m_tipCoins :: .ref m_poolCoins :: .ref m_workCoins :: .ref m_path :: .ref m_order :: .ref m_spent :: []))), (m_w, .inl (e10, 64, .inl f_28)), (m_h, .inl (e11, 8, .inl f_109))] := hD
  have hP9 := hP.sub (ws' := [(m0, .inr (11, (.ref m_mem :: .int 0 :: .int 0 :: .int 0 :: .ref m_at :: .ref m_length :: .ref m_parent :: .ref m_height :: .ref m_time :: .ref m_target :: .ref m_work :: .ref m_arrival :: .ref m_sound :: .ref m_firstTx :: .ref m_txs :: .ref m_blockId :: .int 1 :: .int 0 :: .int 0 :: .int 0 :: .int 0 :: .ref m_heldLength :: .ref m_heldArrival :: .ref m_heldId :: .int 0 :: .ref m_ids :: .ref m_poolLength :: .ref m_poolFee :: .int 0 :: .int 0 :: .int 0 :: .ref m_inId :: .ref m_inIndex :: .ref m_keyAt :: .ref m_keyLength :: .int 0 :: .ref m_outValue :: .ref m_lockAt :: .ref m_lockLength :: .ref m_w :: .ref m_h :: .ref m_once :: .ref m_digest :: .ref m_signHash :: .ref m_buffer :: .ref m_merkle :: .ref m_stack :: .ref m_sizes :: .int 0 :: .ref m_branch :: .ref m_tipCoins :: .ref m_poolCoins :: .ref m_workCoins :: .ref m_path :: .ref m_order :: .ref m_spent :: []))), (m_w, .inl (e10, 64, .inl f_28)), (m_h, .inl (e11, 8, .inl f_109))]) [0, 1, 2] rfl
  have hD9 := hD.sub (ws' := [(m0, .inr (11, (.ref m_mem :: .int 0 :: .int 0 :: .int 0 :: .ref m_at :: .ref m_length :: .ref m_parent :: .ref m_height :: .ref m_time :: .ref m_target :: .ref m_work :: .ref m_arrival :: .ref m_sound :: .ref m_firstTx :: .ref m_txs :: .ref m_blockId :: .int 1 :: .int 0 :: .int 0 :: .int 0 :: .int 0 :: .ref m_heldLength :: .ref m_heldArrival :: .ref m_heldId :: .int 0 :: .ref m_ids :: .ref m_poolLength :: .ref m_poolFee :: .int 0 :: .int 0 :: .int 0 :: .ref m_inId :: .ref m_inIndex :: .ref m_keyAt :: .ref m_keyLength :: .int 0 :: .ref m_outValue :: .ref m_lockAt :: .ref m_lockLength :: .ref m_w :: .ref m_h :: .ref m_once :: .ref m_digest :: .ref m_signHash :: .ref m_buffer :: .ref m_merkle :: .ref m_stack :: .ref m_sizes :: .int 0 :: .ref m_branch :: .ref m_tipCoins :: .ref m_poolCoins :: .ref m_workCoins :: .ref m_path :: .ref m_order :: .ref m_spent :: []))), (m_w, .inl (e10, 64, .inl f_28)), (m_h, .inl (e11, 8, .inl f_109))]) [0, 1, 2] (by decide) rfl
  have hK9 := hK.sub (tys' := []) [] rfl
  exact W.vret hx hb hr (fun t9 ht9 hW9 => ⟨⟨(), rfl, trivial, ⟨f_28, f_109, by rw [ht9]; exact hP9, va_K.moved hW9.alike hK9, hD9⟩⟩, hS.F ht9⟩) hS.2.2 d_Mo_round_425
set_option maxHeartbeats 4000000 in
set_option maxRecDepth 100000 in
theorem c_Mo_sha17 (l : Launch) (dC : Nat → ClassId) (dI : Nat → Nat → Nat) (z : zT) (sz : Nat) (m0 m_mem m_at m_length m_parent m_height m_time m_target m_work m_arrival m_sound m_firstTx m_txs m_blockId m_heldLength m_heldArrival m_heldId m_ids m_poolLength m_poolFee m_inId m_inIndex m_keyAt m_keyLength m_outValue m_lockAt m_lockLength m_w m_h m_once m_digest m_signHash m_buffer m_merkle m_stack m_sizes m_branch m_tipCoins m_poolCoins m_workCoins m_path m_order m_spent : Nat) (e10 e11 e1 e2 : ClassId) (f1 f2 f3 f4 : Nat → Int32) (hf_f4 : sb_Fit f4) : Met l y_Mo_sha w_Mo_sha ({ frames := 1, cells := 0, slots := 0, locals := 31 }) (va_Pc [.ref m0, .ref m_mem, .int 135245, .int 17, .ref m_once, .int 0] (fun U => U.heap.size = sz ∧ va_P (dC, dI) cl_all [(m0, .inr (11, (.ref m_mem :: .int 0 :: .int 0 :: .int 0 :: .ref m_at :: .ref m_length :: .ref m_parent :: .ref m_height :: .ref m_time :: .ref m_target :: .ref m_work :: .ref m_arrival :: .ref m_sound :: .ref m_firstTx :: .ref m_txs :: .ref m_blockId :: .int 1 :: .int 0 :: .int 0 :: .int 0 :: .int 0 :: .ref m_heldLength :: .ref m_heldArrival :: .ref m_heldId :: .int 0 :: .ref m_ids :: .ref m_poolLength :: .ref m_poolFee :: .int 0 :: .int 0 :: .int 0 :: .ref m_inId :: .ref m_inIndex :: .ref m_keyAt :: .ref m_keyLength :: .int 0 :: .ref m_outValue :: .ref m_lockAt :: .ref m_lockLength :: .ref m_w :: .ref m_h :: .ref m_once :: .ref m_digest :: .ref m_signHash :: .ref m_buffer :: .ref m_merkle :: .ref m_stack :: .ref m_sizes :: .int 0 :: .ref m_branch :: .ref m_tipCoins :: .ref m_poolCoins :: .ref m_workCoins :: .ref m_path :: .ref m_order :: .ref m_spent :: []))), (m_w, .inl (e10, 64, .inl f1)), (m_h, .inl (e11, 8, .inl f2)), (m_mem, .inl (e1, 281088, .inl f3)), (m_once, .inl (e2, 32, .inl f4))] U.heap ∧ va_K (dC, dI) cl_all [(e10, .int), (e11, .int), (e1, .byte), (e2, .byte)] U ∧ va_D (fun _ => True) [(m0, .inr (11, (.ref m_mem :: .int 0 :: .int 0 :: .int 0 :: .ref m_at :: .ref m_length :: .ref m_parent :: .ref m_height :: .ref m_time :: .ref m_target :: .ref m_work :: .ref m_arrival :: .ref m_sound :: .ref m_firstTx :: .ref m_txs :: .ref m_blockId :: .int 1 :: .int 0 :: .int 0 :: .int 0 :: .int 0 :: .ref m_heldLength :: .ref m_heldArrival :: .ref m_heldId :: .int 0 :: .ref m_ids :: .ref m_poolLength :: .ref m_poolFee :: .int 0 :: .int 0 :: .int 0 :: .ref m_inId :: .ref m_inIndex :: .ref m_keyAt :: .ref m_keyLength :: .int 0 :: .ref m_outValue :: .ref m_lockAt :: .ref m_lockLength :: .ref m_w :: .ref m_h :: .ref m_once :: .ref m_digest :: .ref m_signHash :: .ref m_buffer :: .ref m_merkle :: .ref m_stack :: .ref m_sizes :: .int 0 :: .ref m_branch :: .ref m_tipCoins :: .ref m_poolCoins :: .ref m_workCoins :: .ref m_path :: .ref m_order :: .ref m_spent :: []))), (m_w, .inl (e10, 64, .inl f1)), (m_h, .inl (e11, 8, .inl f2)), (m_mem, .inl (e1, 281088, .inl f3)), (m_once, .inl (e2, 32, .inl f4))] ∧ zz z (va_A [(m0, .inr (11, (.ref m_mem :: .int 0 :: .int 0 :: .int 0 :: .ref m_at :: .ref m_length :: .ref m_parent :: .ref m_height :: .ref m_time :: .ref m_target :: .ref m_work :: .ref m_arrival :: .ref m_sound :: .ref m_firstTx :: .ref m_txs :: .ref m_blockId :: .int 1 :: .int 0 :: .int 0 :: .int 0 :: .int 0 :: .ref m_heldLength :: .ref m_heldArrival :: .ref m_heldId :: .int 0 :: .ref m_ids :: .ref m_poolLength :: .ref m_poolFee :: .int 0 :: .int 0 :: .int 0 :: .ref m_inId :: .ref m_inIndex :: .ref m_keyAt :: .ref m_keyLength :: .int 0 :: .ref m_outValue :: .ref m_lockAt :: .ref m_lockLength :: .ref m_w :: .ref m_h :: .ref m_once :: .ref m_digest :: .ref m_signHash :: .ref m_buffer :: .ref m_merkle :: .ref m_stack :: .ref m_sizes :: .int 0 :: .ref m_branch :: .ref m_tipCoins :: .ref m_poolCoins :: .ref m_workCoins :: .ref m_path :: .ref m_order :: .ref m_spent :: []))), (m_w, .inl (e10, 64, .inl f1)), (m_h, .inl (e11, 8, .inl f2)), (m_mem, .inl (e1, 281088, .inl f3)), (m_once, .inl (e2, 32, .inl f4))] sz) U U.heap)) (va_Qv (fun _ : Unit => True) (fun _ t => ∃ (g1 : Nat → Int32) (g2 : Nat → Int32) (g4 : Nat → Int32), sb_Fit g4 ∧ va_P (dC, dI) cl_all [(m0, .inr (11, (.ref m_mem :: .int 0 :: .int 0 :: .int 0 :: .ref m_at :: .ref m_length :: .ref m_parent :: .ref m_height :: .ref m_time :: .ref m_target :: .ref m_work :: .ref m_arrival :: .ref m_sound :: .ref m_firstTx :: .ref m_txs :: .ref m_blockId :: .int 1 :: .int 0 :: .int 0 :: .int 0 :: .int 0 :: .ref m_heldLength :: .ref m_heldArrival :: .ref m_heldId :: .int 0 :: .ref m_ids :: .ref m_poolLength :: .ref m_poolFee :: .int 0 :: .int 0 :: .int 0 :: .ref m_inId :: .ref m_inIndex :: .ref m_keyAt :: .ref m_keyLength :: .int 0 :: .ref m_outValue :: .ref m_lockAt :: .ref m_lockLength :: .ref m_w :: .ref m_h :: .ref m_once :: .ref m_digest :: .ref m_signHash :: .ref m_buffer :: .ref m_merkle :: .ref m_stack :: .ref m_sizes :: .int 0 :: .ref m_branch :: .ref m_tipCoins :: .ref m_poolCoins :: .ref m_workCoins :: .ref m_path :: .ref m_order :: .ref m_spent :: []))), (m_w, .inl (e10, 64, .inl g1)), (m_h, .inl (e11, 8, .inl g2)), (m_mem, .inl (e1, 281088, .inl f3)), (m_once, .inl (e2, 32, .inl g4))] t.heap ∧ va_K (dC, dI) cl_all [] t ∧ va_D (va_A [(m0, .inr (11, (.ref m_mem :: .int 0 :: .int 0 :: .int 0 :: .ref m_at :: .ref m_length :: .ref m_parent :: .ref m_height :: .ref m_time :: .ref m_target :: .ref m_work :: .ref m_arrival :: .ref m_sound :: .ref m_firstTx :: .ref m_txs :: .ref m_blockId :: .int 1 :: .int 0 :: .int 0 :: .int 0 :: .int 0 :: .ref m_heldLength :: .ref m_heldArrival :: .ref m_heldId :: .int 0 :: .ref m_ids :: .ref m_poolLength :: .ref m_poolFee :: .int 0 :: .int 0 :: .int 0 :: .ref m_inId :: .ref m_inIndex :: .ref m_keyAt :: .ref m_keyLength :: .int 0 :: .ref m_outValue :: .ref m_lockAt :: .ref m_lockLength :: .ref m_w :: .ref m_h :: .ref m_once :: .ref m_digest :: .ref m_signHash :: .ref m_buffer :: .ref m_merkle :: .ref m_stack :: .ref m_sizes :: .int 0 :: .ref m_branch :: .ref m_tipCoins :: .ref m_poolCoins :: .ref m_workCoins :: .ref m_path :: .ref m_order :: .ref m_spent :: []))), (m_w, .inl (e10, 64, .inl f1)), (m_h, .inl (e11, 8, .inl f2)), (m_mem, .inl (e1, 281088, .inl f3)), (m_once, .inl (e2, 32, .inl f4))] sz) [(m0, .inr (11, (.ref m_mem :: .int 0 :: .int 0 :: .int 0 :: .ref m_at :: .ref m_length :: .ref m_parent :: .ref m_height :: .ref m_time :: .ref m_target :: .ref m_work :: .ref m_arrival :: .ref m_sound :: .ref m_firstTx :: .ref m_txs :: .ref m_blockId :: .int 1 :: .int 0 :: .int 0 :: .int 0 :: .int 0 :: .ref m_heldLength :: .ref m_heldArrival :: .ref m_heldId :: .int 0 :: .ref m_ids :: .ref m_poolLength :: .ref m_poolFee :: .int 0 :: .int 0 :: .int 0 :: .ref m_inId :: .ref m_inIndex :: .ref m_keyAt :: .ref m_keyLength :: .int 0 :: .ref m_outValue :: .ref m_lockAt :: .ref m_lockLength :: .ref m_w :: .ref m_h :: .ref m_once :: .ref m_digest :: .ref m_signHash :: .ref m_buffer :: .ref m_merkle :: .ref m_stack :: .ref m_sizes :: .int 0 :: .ref m_branch :: .ref m_tipCoins :: .ref m_poolCoins :: .ref m_workCoins :: .ref m_path :: .ref m_order :: .ref m_spent :: []))), (m_w, .inl (e10, 64, .inl g1)), (m_h, .inl (e11, 8, .inl g2)), (m_mem, .inl (e1, 281088, .inl f3)), (m_once, .inl (e2, 32, .inl g4))]) (va_A [(m0, .inr (11, (.ref m_mem :: .int 0 :: .int 0 :: .int 0 :: .ref m_at :: .ref m_length :: .ref m_parent :: .ref m_height :: .ref m_time :: .ref m_target :: .ref m_work :: .ref m_arrival :: .ref m_sound :: .ref m_firstTx :: .ref m_txs :: .ref m_blockId :: .int 1 :: .int 0 :: .int 0 :: .int 0 :: .int 0 :: .ref m_heldLength :: .ref m_heldArrival :: .ref m_heldId :: .int 0 :: .ref m_ids :: .ref m_poolLength :: .ref m_poolFee :: .int 0 :: .int 0 :: .int 0 :: .ref m_inId :: .ref m_inIndex :: .ref m_keyAt :: .ref m_keyLength :: .int 0 :: .ref m_outValue :: .ref m_lockAt :: .ref m_lockLength :: .ref m_w :: .ref m_h :: .ref m_once :: .ref m_digest :: .ref m_signHash :: .ref m_buffer :: .ref m_merkle :: .ref m_stack :: .ref m_sizes :: .int 0 :: .ref m_branch :: .ref m_tipCoins :: .ref m_poolCoins :: .ref m_workCoins :: .ref m_path :: .ref m_order :: .ref m_spent :: []))), (m_w, .inl (e10, 64, .inl f1)), (m_h, .inl (e11, 8, .inl f2)), (m_mem, .inl (e1, 281088, .inl f3)), (m_once, .inl (e2, 32, .inl f4))] sz)) 0 0 (va_A [(m0, .inr (11, (.ref m_mem :: .int 0 :: .int 0 :: .int 0 :: .ref m_at :: .ref m_length :: .ref m_parent :: .ref m_height :: .ref m_time :: .ref m_target :: .ref m_work :: .ref m_arrival :: .ref m_sound :: .ref m_firstTx :: .ref m_txs :: .ref m_blockId :: .int 1 :: .int 0 :: .int 0 :: .int 0 :: .int 0 :: .ref m_heldLength :: .ref m_heldArrival :: .ref m_heldId :: .int 0 :: .ref m_ids :: .ref m_poolLength :: .ref m_poolFee :: .int 0 :: .int 0 :: .int 0 :: .ref m_inId :: .ref m_inIndex :: .ref m_keyAt :: .ref m_keyLength :: .int 0 :: .ref m_outValue :: .ref m_lockAt :: .ref m_lockLength :: .ref m_w :: .ref m_h :: .ref m_once :: .ref m_digest :: .ref m_signHash :: .ref m_buffer :: .ref m_merkle :: .ref m_stack :: .ref m_sizes :: .int 0 :: .ref m_branch :: .ref m_tipCoins :: .ref m_poolCoins :: .ref m_workCoins :: .ref m_path :: .ref m_order :: .ref m_spent :: []))), (m_w, .inl (e10, 64, .inl f1)), (m_h, .inl (e11, 8, .inl f2)), (m_mem, .inl (e1, 281088, .inl f3)), (m_once, .inl (e2, 32, .inl f4))] sz) := by
  refine Met.ofW (cc := b_Mo_sha) (maxL := 13) (ret := none) (by decide) rfl ?_
  intro p e s m args below meth c s₁ B hml hv
  obtain ⟨rfl, hsz, hP, hK, hD0, hZ⟩ := hv
  have hx := B.exec
  have hb := B.bytes
  have hr := B.returns
  have hT : ∀ w ∈ lw_all, w.before _ s = true := fun w h => atoms_spec (ws := w_Mo_sha) B.pre w (List.mem_cons_of_mem _ h)
  have hown : s.vm.findClass R_Mo = some m.cls := findClass_of_methodNamed B.named
  have hlocks := B.notSynchronized
  subst hsz
  have hD := hD0.self (sz := s.heap.size)
  generalize hAe : va_A [(m0, .inr (11, (.ref m_mem :: .int 0 :: .int 0 :: .int 0 :: .ref m_at :: .ref m_length :: .ref m_parent :: .ref m_height :: .ref m_time :: .ref m_target :: .ref m_work :: .ref m_arrival :: .ref m_sound :: .ref m_firstTx :: .ref m_txs :: .ref m_blockId :: .int 1 :: .int 0 :: .int 0 :: .int 0 :: .int 0 :: .ref m_heldLength :: .ref m_heldArrival :: .ref m_heldId :: .int 0 :: .ref m_ids :: .ref m_poolLength :: .ref m_poolFee :: .int 0 :: .int 0 :: .int 0 :: .ref m_inId :: .ref m_inIndex :: .ref m_keyAt :: .ref m_keyLength :: .int 0 :: .ref m_outValue :: .ref m_lockAt :: .ref m_lockLength :: .ref m_w :: .ref m_h :: .ref m_once :: .ref m_digest :: .ref m_signHash :: .ref m_buffer :: .ref m_merkle :: .ref m_stack :: .ref m_sizes :: .int 0 :: .ref m_branch :: .ref m_tipCoins :: .ref m_poolCoins :: .ref m_workCoins :: .ref m_path :: .ref m_order :: .ref m_spent :: []))), (m_w, .inl (e10, 64, .inl f1)), (m_h, .inl (e11, 8, .inl f2)), (m_mem, .inl (e1, 281088, .inl f3)), (m_once, .inl (e2, 32, .inl f4))] s.heap.size = A at hD hZ ⊢
  have hA : ∀ q : Nat, s.heap.size ≤ q → A q := fun q h => by rw [← hAe]; exact Or.inr h
  have hS : va_S A s.heap s.heap [] := va_S.rf
  have hl := lv_entry ([.ref m0, .ref m_mem, .int 135245, .int 17, .ref m_once, .int 0]) (n := 13) (Nat.le_of_ble_eq_true rfl)
  rw [lg_entry_eq]
  generalize (lg_sl ([.ref m0, .ref m_mem, .int 135245, .int 17, .ref m_once, .int 0]) ++ List.replicate (13 - (lg_sl ([.ref m0, .ref m_mem, .int 135245, .int 17, .ref m_once, .int 0])).length) Slot.unset).toArray = ls at hl ⊢
  have hl : lv_has ls 13 [(0, .ref m0), (1, .ref m_mem), (2, .int 135245), (3, .int 17), (4, .ref m_once), (5, .int 0)] := hl
  refine lv_iconst (v := 0) hx hb d_Mo_sha_0 (by decide) ?_
  refine lv_istore (lv' := [(6, .int 0), (0, .ref m0), (1, .ref m_mem), (2, .int 135245), (3, .int 17), (4, .ref m_once), (5, .int 0)]) hx hb d_Mo_sha_1 hl (by decide) rfl (fun ls hl => ?_)
  have lp3_1 : ∀ (Q : State → Prop) (n i : Nat) (w : Nat → Int32) (H : Heap) (locs : List Loc) (ls : Array Slot), i + n = 8 → 0 ≤ i → va_P (dC, dI) cl_all [(m0, .inr (11, (.ref m_mem :: .int 0 :: .int 0 :: .int 0 :: .ref m_at :: .ref m_length :: .ref m_parent :: .ref m_height :: .ref m_time :: .ref m_target :: .ref m_work :: .ref m_arrival :: .ref m_sound :: .ref m_firstTx :: .ref m_txs :: .ref m_blockId :: .int 1 :: .int 0 :: .int 0 :: .int 0 :: .int 0 :: .ref m_heldLength :: .ref m_heldArrival :: .ref m_heldId :: .int 0 :: .ref m_ids :: .ref m_poolLength :: .ref m_poolFee :: .int 0 :: .int 0 :: .int 0 :: .ref m_inId :: .ref m_inIndex :: .ref m_keyAt :: .ref m_keyLength :: .int 0 :: .ref m_outValue :: .ref m_lockAt :: .ref m_lockLength :: .ref m_w :: .ref m_h :: .ref m_once :: .ref m_digest :: .ref m_signHash :: .ref m_buffer :: .ref m_merkle :: .ref m_stack :: .ref m_sizes :: .int 0 :: .ref m_branch :: .ref m_tipCoins :: .ref m_poolCoins :: .ref m_workCoins :: .ref m_path :: .ref m_order :: .ref m_spent :: []))), (m_w, .inl (e10, 64, .inl f1)), (m_h, .inl (e11, 8, .inl w)), (m_mem, .inl (e1, 281088, .inl f3)), (m_once, .inl (e2, 32, .inl f4))] H → va_D A [(m0, .inr (11, (.ref m_mem :: .int 0 :: .int 0 :: .int 0 :: .ref m_at :: .ref m_length :: .ref m_parent :: .ref m_height :: .ref m_time :: .ref m_target :: .ref m_work :: .ref m_arrival :: .ref m_sound :: .ref m_firstTx :: .ref m_txs :: .ref m_blockId :: .int 1 :: .int 0 :: .int 0 :: .int 0 :: .int 0 :: .ref m_heldLength :: .ref m_heldArrival :: .ref m_heldId :: .int 0 :: .ref m_ids :: .ref m_poolLength :: .ref m_poolFee :: .int 0 :: .int 0 :: .int 0 :: .ref m_inId :: .ref m_inIndex :: .ref m_keyAt :: .ref m_keyLength :: .int 0 :: .ref m_outValue :: .ref m_lockAt :: .ref m_lockLength :: .ref m_w :: .ref m_h :: .ref m_once :: .ref m_digest :: .ref m_signHash :: .ref m_buffer :: .ref m_merkle :: .ref m_stack :: .ref m_sizes :: .int 0 :: .ref m_branch :: .ref m_tipCoins :: .ref m_poolCoins :: .ref m_workCoins :: .ref m_path :: .ref m_order :: .ref m_spent :: []))), (m_w, .inl (e10, 64, .inl f1)), (m_h, .inl (e11, 8, .inl w)), (m_mem, .inl (e1, 281088, .inl f3)), (m_once, .inl (e2, 32, .inl f4))] → va_S A s.heap H locs → lv_has ls 13 [(0, .ref m0), (1, .ref m_mem), (2, .int 135245), (3, .int 17), (4, .ref m_once), (5, .int 0), (6, .int (nI i))] → (∀ (w : Nat → Int32) (H : Heap) (locs : List Loc) (ls : Array Slot), va_P (dC, dI) cl_all [(m0, .inr (11, (.ref m_mem :: .int 0 :: .int 0 :: .int 0 :: .ref m_at :: .ref m_length :: .ref m_parent :: .ref m_height :: .ref m_time :: .ref m_target :: .ref m_work :: .ref m_arrival :: .ref m_sound :: .ref m_firstTx :: .ref m_txs :: .ref m_blockId :: .int 1 :: .int 0 :: .int 0 :: .int 0 :: .int 0 :: .ref m_heldLength :: .ref m_heldArrival :: .ref m_heldId :: .int 0 :: .ref m_ids :: .ref m_poolLength :: .ref m_poolFee :: .int 0 :: .int 0 :: .int 0 :: .ref m_inId :: .ref m_inIndex :: .ref m_keyAt :: .ref m_keyLength :: .int 0 :: .ref m_outValue :: .ref m_lockAt :: .ref m_lockLength :: .ref m_w :: .ref m_h :: .ref m_once :: .ref m_digest :: .ref m_signHash :: .ref m_buffer :: .ref m_merkle :: .ref m_stack :: .ref m_sizes :: .int 0 :: .ref m_branch :: .ref m_tipCoins :: .ref m_poolCoins :: .ref m_workCoins :: .ref m_path :: .ref m_order :: .ref m_spent :: []))), (m_w, .inl (e10, 64, .inl f1)), (m_h, .inl (e11, 8, .inl w)), (m_mem, .inl (e1, 281088, .inl f3)), (m_once, .inl (e2, 32, .inl f4))] H → va_D A [(m0, .inr (11, (.ref m_mem :: .int 0 :: .int 0 :: .int 0 :: .ref m_at :: .ref m_length :: .ref m_parent :: .ref m_height :: .ref m_time :: .ref m_target :: .ref m_work :: .ref m_arrival :: .ref m_sound :: .ref m_firstTx :: .ref m_txs :: .ref m_blockId :: .int 1 :: .int 0 :: .int 0 :: .int 0 :: .int 0 :: .ref m_heldLength :: .ref m_heldArrival :: .ref m_heldId :: .int 0 :: .ref m_ids :: .ref m_poolLength :: .ref m_poolFee :: .int 0 :: .int 0 :: .int 0 :: .ref m_inId :: .ref m_inIndex :: .ref m_keyAt :: .ref m_keyLength :: .int 0 :: .ref m_outValue :: .ref m_lockAt :: .ref m_lockLength :: .ref m_w :: .ref m_h :: .ref m_once :: .ref m_digest :: .ref m_signHash :: .ref m_buffer :: .ref m_merkle :: .ref m_stack :: .ref m_sizes :: .int 0 :: .ref m_branch :: .ref m_tipCoins :: .ref m_poolCoins :: .ref m_workCoins :: .ref m_path :: .ref m_order :: .ref m_spent :: []))), (m_w, .inl (e10, 64, .inl f1)), (m_h, .inl (e11, 8, .inl w)), (m_mem, .inl (e1, 281088, .inl f3)), (m_once, .inl (e2, 32, .inl f4))] → va_S A s.heap H locs → lv_has ls 13 [(0, .ref m0), (1, .ref m_mem), (2, .int 135245), (3, .int 17), (4, .ref m_once), (5, .int 0), (6, .int (nI 8))] → W p l e (headSpec w_Mo_sha ({ frames := 1, cells := 0, slots := 0, locals := 31 })).room s m ([.ref m0, .ref m_mem, .int 135245, .int 17, .ref m_once, .int 0] : List Value).toArray below meth c H locs 0 0 Q (F0 m 29 ls [])) → W p l e (headSpec w_Mo_sha ({ frames := 1, cells := 0, slots := 0, locals := 31 })).room s m ([.ref m0, .ref m_mem, .int 135245, .int 17, .ref m_once, .int 0] : List Value).toArray below meth c H locs 0 0 Q (F0 m 3 ls []) := by
    intro Q n
    induction n with
    | zero =>
      intro i w H locs ls hi_3 ha_3  hP hD hS hl kx_3
      have hi_3 : i = 8 := by omega
      subst hi_3
      refine lv_iload hx hb d_Mo_sha_3 (lv_at hl 6 rfl) ?_
      refine lv_bipush (v := 8) hx hb d_Mo_sha_5 (by decide) ?_
      refine lv_icmp_ge (tgt := 29) hx hb d_Mo_sha_7 (by decide) (fun _ => ?_) (fun h => absurd ((nI_leI (a := 8) (b := (8)) (by omega) (by omega)).mpr (by omega)) h)
      exact kx_3 w _ _ _  hP hD hS (lv_sub hl [0, 1, 2, 3, 4, 5, 6] rfl)
    | succ n ih_3 =>
      intro i w H locs ls hi_3 ha_3  hP hD hS hl kx_3
      refine lv_iload hx hb d_Mo_sha_3 (lv_at hl 6 rfl) ?_
      refine lv_bipush (v := 8) hx hb d_Mo_sha_5 (by decide) ?_
      refine lv_icmp_ge (tgt := 29) hx hb d_Mo_sha_7 (by decide) (fun h => absurd h (fun h9 => absurd ((nI_leI (a := 8) (b := (i)) (by omega) (by omega)).mp h9) (by omega))) (fun _ => ?_)
      refine lv_aload_n hx hb d_Mo_sha_10 rfl (lv_at hl 0 rfl) ?_
      refine va_get (D := (dC, dI)) (ci := 11) (v := .ref m_h) (C := R_Mo) (T := F_Mo) (N := 56) hx hb hT i_Mo hown hK hP 0 rfl rfl 40 (by decide) (hT _ k_319) (fun _ h9 => h9) rfl d_Mo_sha_11 ?_
      refine lv_iload hx hb d_Mo_sha_14 (lv_at hl 6 rfl) ?_
      refine va_gets hx hb hZ.2.2.2.2.2.1 hS hown (hT _ k_381) (fun _ h9 => h9) d_Mo_sha_16 ?_
      refine lv_iload hx hb d_Mo_sha_19 (lv_at hl 6 rfl) ?_
      refine va_ti hx hb hZ.2.2.2.2.2.2.1 hS (vp_in_nI (by omega) (by omega)) rfl d_Mo_sha_21 ?_
      refine lv_topi (fun x_2 _ => ?_)
      refine zz_iast hx hb hK hP hD hS 2 1 rfl rfl (vp_in_nI (by omega) (by omega)) d_Mo_sha_22 (fun f_3 H locs hP hD hS => ?_)
      have hP : va_P (dC, dI) cl_all [(m0, .inr (11, (.ref m_mem :: .int 0 :: .int 0 :: .int 0 :: .ref m_at :: .ref m_length :: .ref m_parent :: .ref m_height :: .ref m_time :: .ref m_target :: .ref m_work :: .ref m_arrival :: .ref m_sound :: .ref m_firstTx :: .ref m_txs :: .ref m_blockId :: .int 1 :: .int 0 :: .int 0 :: .int 0 :: .int 0 :: .ref m_heldLength :: .ref m_heldArrival :: .ref m_heldId :: .int 0 :: .ref m_ids :: .ref m_poolLength :: .ref m_poolFee :: .int 0 :: .int 0 :: .int 0 :: .ref m_inId :: .ref m_inIndex :: .ref m_keyAt :: .ref m_keyLength :: .int 0 :: .ref m_outValue :: .ref m_lockAt :: .ref m_lockLength :: .ref m_w :: .ref m_h :: .ref m_once :: .ref m_digest :: .ref m_signHash :: .ref m_buffer :: .ref m_merkle :: .ref m_stack :: .ref m_sizes :: .int 0 :: .ref m_branch :: .ref m_tipCoins :: .ref m_poolCoins :: .ref m_workCoins :: .ref m_path :: .ref m_order :: .ref m_spent :: []))), (m_w, .inl (e10, 64, .inl f1)), (m_h, .inl (e11, 8, .inl f_3)), (m_mem, .inl (e1, 281088, .inl f3)), (m_once, .inl (e2, 32, .inl f4))] H := hP
      have hD : va_D A [(m0, .inr (11, (.ref m_mem :: .int 0 :: .int 0 :: .int 0 :: .ref m_at :: .ref m_length :: .ref m_parent :: .ref m_height :: .ref m_time :: .ref m_target :: .ref m_work :: .ref m_arrival :: .ref m_sound :: .ref m_firstTx :: .ref m_txs :: .ref m_blockId :: .int 1 :: .int 0 :: .int 0 :: .int 0 :: .int 0 :: .ref m_heldLength :: .ref m_heldArrival :: .ref m_heldId :: .int 0 :: .ref m_ids :: .ref m_poolLength :: .ref m_poolFee :: .int 0 :: .int 0 :: .int 0 :: .ref m_inId :: .ref m_inIndex :: .ref m_keyAt :: .ref m_keyLength :: .int 0 :: .ref m_outValue :: .ref m_lockAt :: .ref m_lockLength :: .ref m_w :: .ref m_h :: .ref m_once :: .ref m_digest :: .ref m_signHash :: .ref m_buffer :: .ref m_merkle :: .ref m_stack :: .ref m_sizes :: .int 0 :: .ref m_branch :: .ref m_tipCoins :: .ref m_poolCoins :: .ref m_workCoins :: .ref m_path :: .ref m_order :: .ref m_spent :: []))), (m_w, .inl (e10, 64, .inl f1)), (m_h, .inl (e11, 8, .inl f_3)), (m_mem, .inl (e1, 281088, .inl f3)), (m_once, .inl (e2, 32, .inl f4))] := hD
      refine lv_iinc (v := (nI (i + 1))) (lv' := [(6, .int (nI (i + 1))), (0, .ref m0), (1, .ref m_mem), (2, .int 135245), (3, .int 17), (4, .ref m_once), (5, .int 0)]) hx hb d_Mo_sha_23 hl (k := 6) rfl (nI_add (i) 1) (by decide) rfl (fun ls hl => ?_)
      refine lv_goto (tgt := 3) hx hb d_Mo_sha_26 (by decide) ?_
      exact ih_3 (i + 1) f_3 _ _ _ (by omega) (by omega)  hP hD hS (lv_sub hl [1, 2, 3, 4, 5, 6, 0] rfl) kx_3
  refine lp3_1 _ (8 - 0) 0 f2 _ _ _ (by omega) (by omega)  hP hD hS (lv_sub hl [1, 2, 3, 4, 5, 6, 0] rfl) (fun f_4 H locs ls  hP hD hS hl => ?_)
  refine lv_iload_n hx hb d_Mo_sha_29 rfl (lv_at hl 3 rfl) ?_
  refine lv_bipush (v := 9) hx hb d_Mo_sha_30 (by decide) ?_
  refine lv_iadd hx hb d_Mo_sha_32 ?_
  refine zz_i (v := 26) (by decide) ?_
  refine lv_bipush (v := 63) hx hb d_Mo_sha_33 (by decide) ?_
  refine lv_iadd hx hb d_Mo_sha_35 ?_
  refine zz_i (v := 89) (by decide) ?_
  refine lv_bipush (v := 64) hx hb d_Mo_sha_36 (by decide) ?_
  refine lv_idiv hx hb d_Mo_sha_38 (by decide) ?_
  refine zz_i (v := 1) (by decide) ?_
  refine lv_bipush (v := 64) hx hb d_Mo_sha_39 (by decide) ?_
  refine lv_imul hx hb d_Mo_sha_41 ?_
  refine zz_i (v := 64) (by decide) ?_
  refine lv_istore (lv' := [(6, .int 64), (0, .ref m0), (1, .ref m_mem), (2, .int 135245), (3, .int 17), (4, .ref m_once), (5, .int 0)]) hx hb d_Mo_sha_42 hl (by decide) rfl (fun ls hl => ?_)
  refine lv_iconst (v := 0) hx hb d_Mo_sha_44 (by decide) ?_
  refine lv_istore (lv' := [(7, .int 0), (6, .int 64), (0, .ref m0), (1, .ref m_mem), (2, .int 135245), (3, .int 17), (4, .ref m_once), (5, .int 0)]) hx hb d_Mo_sha_45 hl (by decide) rfl (fun ls hl => ?_)
  refine lv_iload hx hb d_Mo_sha_47 (lv_at hl 0 rfl) ?_
  refine lv_iload hx hb d_Mo_sha_49 (lv_at hl 1 rfl) ?_
  refine lv_icmp_ge (tgt := 197) hx hb d_Mo_sha_51 (by decide) (fun h => absurd h (by decide)) (fun _ => ?_)
  refine lv_iconst (v := 0) hx hb d_Mo_sha_54 (by decide) ?_
  refine lv_istore (lv' := [(8, .int 0), (7, .int 0), (6, .int 64), (0, .ref m0), (1, .ref m_mem), (2, .int 135245), (3, .int 17), (4, .ref m_once), (5, .int 0)]) hx hb d_Mo_sha_55 hl (by decide) rfl (fun ls hl => ?_)
  have lp57_5 : ∀ (Q : State → Prop) (n i : Nat) (w : Nat → Int32) (H : Heap) (locs : List Loc) (ls : Array Slot), i + n = 16 → 0 ≤ i → va_P (dC, dI) cl_all [(m0, .inr (11, (.ref m_mem :: .int 0 :: .int 0 :: .int 0 :: .ref m_at :: .ref m_length :: .ref m_parent :: .ref m_height :: .ref m_time :: .ref m_target :: .ref m_work :: .ref m_arrival :: .ref m_sound :: .ref m_firstTx :: .ref m_txs :: .ref m_blockId :: .int 1 :: .int 0 :: .int 0 :: .int 0 :: .int 0 :: .ref m_heldLength :: .ref m_heldArrival :: .ref m_heldId :: .int 0 :: .ref m_ids :: .ref m_poolLength :: .ref m_poolFee :: .int 0 :: .int 0 :: .int 0 :: .ref m_inId :: .ref m_inIndex :: .ref m_keyAt :: .ref m_keyLength :: .int 0 :: .ref m_outValue :: .ref m_lockAt :: .ref m_lockLength :: .ref m_w :: .ref m_h :: .ref m_once :: .ref m_digest :: .ref m_signHash :: .ref m_buffer :: .ref m_merkle :: .ref m_stack :: .ref m_sizes :: .int 0 :: .ref m_branch :: .ref m_tipCoins :: .ref m_poolCoins :: .ref m_workCoins :: .ref m_path :: .ref m_order :: .ref m_spent :: []))), (m_w, .inl (e10, 64, .inl w)), (m_h, .inl (e11, 8, .inl f_4)), (m_mem, .inl (e1, 281088, .inl f3)), (m_once, .inl (e2, 32, .inl f4))] H → va_D A [(m0, .inr (11, (.ref m_mem :: .int 0 :: .int 0 :: .int 0 :: .ref m_at :: .ref m_length :: .ref m_parent :: .ref m_height :: .ref m_time :: .ref m_target :: .ref m_work :: .ref m_arrival :: .ref m_sound :: .ref m_firstTx :: .ref m_txs :: .ref m_blockId :: .int 1 :: .int 0 :: .int 0 :: .int 0 :: .int 0 :: .ref m_heldLength :: .ref m_heldArrival :: .ref m_heldId :: .int 0 :: .ref m_ids :: .ref m_poolLength :: .ref m_poolFee :: .int 0 :: .int 0 :: .int 0 :: .ref m_inId :: .ref m_inIndex :: .ref m_keyAt :: .ref m_keyLength :: .int 0 :: .ref m_outValue :: .ref m_lockAt :: .ref m_lockLength :: .ref m_w :: .ref m_h :: .ref m_once :: .ref m_digest :: .ref m_signHash :: .ref m_buffer :: .ref m_merkle :: .ref m_stack :: .ref m_sizes :: .int 0 :: .ref m_branch :: .ref m_tipCoins :: .ref m_poolCoins :: .ref m_workCoins :: .ref m_path :: .ref m_order :: .ref m_spent :: []))), (m_w, .inl (e10, 64, .inl w)), (m_h, .inl (e11, 8, .inl f_4)), (m_mem, .inl (e1, 281088, .inl f3)), (m_once, .inl (e2, 32, .inl f4))] → va_S A s.heap H locs → lv_has ls 13 [(0, .ref m0), (1, .ref m_mem), (2, .int 135245), (3, .int 17), (4, .ref m_once), (5, .int 0), (6, .int 64), (7, .int 0), (8, .int (nI i))] → (∀ (w : Nat → Int32) (H : Heap) (locs : List Loc) (ls : Array Slot), va_P (dC, dI) cl_all [(m0, .inr (11, (.ref m_mem :: .int 0 :: .int 0 :: .int 0 :: .ref m_at :: .ref m_length :: .ref m_parent :: .ref m_height :: .ref m_time :: .ref m_target :: .ref m_work :: .ref m_arrival :: .ref m_sound :: .ref m_firstTx :: .ref m_txs :: .ref m_blockId :: .int 1 :: .int 0 :: .int 0 :: .int 0 :: .int 0 :: .ref m_heldLength :: .ref m_heldArrival :: .ref m_heldId :: .int 0 :: .ref m_ids :: .ref m_poolLength :: .ref m_poolFee :: .int 0 :: .int 0 :: .int 0 :: .ref m_inId :: .ref m_inIndex :: .ref m_keyAt :: .ref m_keyLength :: .int 0 :: .ref m_outValue :: .ref m_lockAt :: .ref m_lockLength :: .ref m_w :: .ref m_h :: .ref m_once :: .ref m_digest :: .ref m_signHash :: .ref m_buffer :: .ref m_merkle :: .ref m_stack :: .ref m_sizes :: .int 0 :: .ref m_branch :: .ref m_tipCoins :: .ref m_poolCoins :: .ref m_workCoins :: .ref m_path :: .ref m_order :: .ref m_spent :: []))), (m_w, .inl (e10, 64, .inl w)), (m_h, .inl (e11, 8, .inl f_4)), (m_mem, .inl (e1, 281088, .inl f3)), (m_once, .inl (e2, 32, .inl f4))] H → va_D A [(m0, .inr (11, (.ref m_mem :: .int 0 :: .int 0 :: .int 0 :: .ref m_at :: .ref m_length :: .ref m_parent :: .ref m_height :: .ref m_time :: .ref m_target :: .ref m_work :: .ref m_arrival :: .ref m_sound :: .ref m_firstTx :: .ref m_txs :: .ref m_blockId :: .int 1 :: .int 0 :: .int 0 :: .int 0 :: .int 0 :: .ref m_heldLength :: .ref m_heldArrival :: .ref m_heldId :: .int 0 :: .ref m_ids :: .ref m_poolLength :: .ref m_poolFee :: .int 0 :: .int 0 :: .int 0 :: .ref m_inId :: .ref m_inIndex :: .ref m_keyAt :: .ref m_keyLength :: .int 0 :: .ref m_outValue :: .ref m_lockAt :: .ref m_lockLength :: .ref m_w :: .ref m_h :: .ref m_once :: .ref m_digest :: .ref m_signHash :: .ref m_buffer :: .ref m_merkle :: .ref m_stack :: .ref m_sizes :: .int 0 :: .ref m_branch :: .ref m_tipCoins :: .ref m_poolCoins :: .ref m_workCoins :: .ref m_path :: .ref m_order :: .ref m_spent :: []))), (m_w, .inl (e10, 64, .inl w)), (m_h, .inl (e11, 8, .inl f_4)), (m_mem, .inl (e1, 281088, .inl f3)), (m_once, .inl (e2, 32, .inl f4))] → va_S A s.heap H locs → lv_has ls 13 [(0, .ref m0), (1, .ref m_mem), (2, .int 135245), (3, .int 17), (4, .ref m_once), (5, .int 0), (6, .int 64), (7, .int 0), (8, .int (nI 16))] → W p l e (headSpec w_Mo_sha ({ frames := 1, cells := 0, slots := 0, locals := 31 })).room s m ([.ref m0, .ref m_mem, .int 135245, .int 17, .ref m_once, .int 0] : List Value).toArray below meth c H locs 0 0 Q (F0 m 187 ls [])) → W p l e (headSpec w_Mo_sha ({ frames := 1, cells := 0, slots := 0, locals := 31 })).room s m ([.ref m0, .ref m_mem, .int 135245, .int 17, .ref m_once, .int 0] : List Value).toArray below meth c H locs 0 0 Q (F0 m 57 ls []) := by
    intro Q n
    induction n with
    | zero =>
      intro i w H locs ls hi_57 ha_57  hP hD hS hl kx_57
      have hi_57 : i = 16 := by omega
      subst hi_57
      refine lv_iload hx hb d_Mo_sha_57 (lv_at hl 8 rfl) ?_
      refine lv_bipush (v := 16) hx hb d_Mo_sha_59 (by decide) ?_
      refine lv_icmp_ge (tgt := 187) hx hb d_Mo_sha_61 (by decide) (fun _ => ?_) (fun h => absurd ((nI_leI (a := 16) (b := (16)) (by omega) (by omega)).mpr (by omega)) h)
      exact kx_57 w _ _ _  hP hD hS (lv_sub hl [0, 1, 2, 3, 4, 5, 6, 7, 8] rfl)
    | succ n ih_57 =>
      intro i w H locs ls hi_57 ha_57  hP hD hS hl kx_57
      refine lv_iload hx hb d_Mo_sha_57 (lv_at hl 8 rfl) ?_
      refine lv_bipush (v := 16) hx hb d_Mo_sha_59 (by decide) ?_
      refine lv_icmp_ge (tgt := 187) hx hb d_Mo_sha_61 (by decide) (fun h => absurd h (fun h9 => absurd ((nI_leI (a := 16) (b := (i)) (by omega) (by omega)).mp h9) (by omega))) (fun _ => ?_)
      refine lv_iconst (v := 0) hx hb d_Mo_sha_64 (by decide) ?_
      refine lv_istore (lv' := [(9, .int 0), (0, .ref m0), (1, .ref m_mem), (2, .int 135245), (3, .int 17), (4, .ref m_once), (5, .int 0), (6, .int 64), (7, .int 0), (8, .int (nI i))]) hx hb d_Mo_sha_65 hl (by decide) rfl (fun ls hl => ?_)
      refine lv_iconst (v := 0) hx hb d_Mo_sha_67 (by decide) ?_
      refine lv_istore (lv' := [(10, .int 0), (9, .int 0), (0, .ref m0), (1, .ref m_mem), (2, .int 135245), (3, .int 17), (4, .ref m_once), (5, .int 0), (6, .int 64), (7, .int 0), (8, .int (nI i))]) hx hb d_Mo_sha_68 hl (by decide) rfl (fun ls hl => ?_)
      have lp70_6 : ∀ (Q : State → Prop) (n j : Nat) (wd : Int32) (H : Heap) (locs : List Loc) (ls : Array Slot), j + n = 4 → 0 ≤ j → va_P (dC, dI) cl_all [(m0, .inr (11, (.ref m_mem :: .int 0 :: .int 0 :: .int 0 :: .ref m_at :: .ref m_length :: .ref m_parent :: .ref m_height :: .ref m_time :: .ref m_target :: .ref m_work :: .ref m_arrival :: .ref m_sound :: .ref m_firstTx :: .ref m_txs :: .ref m_blockId :: .int 1 :: .int 0 :: .int 0 :: .int 0 :: .int 0 :: .ref m_heldLength :: .ref m_heldArrival :: .ref m_heldId :: .int 0 :: .ref m_ids :: .ref m_poolLength :: .ref m_poolFee :: .int 0 :: .int 0 :: .int 0 :: .ref m_inId :: .ref m_inIndex :: .ref m_keyAt :: .ref m_keyLength :: .int 0 :: .ref m_outValue :: .ref m_lockAt :: .ref m_lockLength :: .ref m_w :: .ref m_h :: .ref m_once :: .ref m_digest :: .ref m_signHash :: .ref m_buffer :: .ref m_merkle :: .ref m_stack :: .ref m_sizes :: .int 0 :: .ref m_branch :: .ref m_tipCoins :: .ref m_poolCoins :: .ref m_workCoins :: .ref m_path :: .ref m_order :: .ref m_spent :: []))), (m_w, .inl (e10, 64, .inl w)), (m_h, .inl (e11, 8, .inl f_4)), (m_mem, .inl (e1, 281088, .inl f3)), (m_once, .inl (e2, 32, .inl f4))] H → va_D A [(m0, .inr (11, (.ref m_mem :: .int 0 :: .int 0 :: .int 0 :: .ref m_at :: .ref m_length :: .ref m_parent :: .ref m_height :: .ref m_time :: .ref m_target :: .ref m_work :: .ref m_arrival :: .ref m_sound :: .ref m_firstTx :: .ref m_txs :: .ref m_blockId :: .int 1 :: .int 0 :: .int 0 :: .int 0 :: .int 0 :: .ref m_heldLength :: .ref m_heldArrival :: .ref m_heldId :: .int 0 :: .ref m_ids :: .ref m_poolLength :: .ref m_poolFee :: .int 0 :: .int 0 :: .int 0 :: .ref m_inId :: .ref m_inIndex :: .ref m_keyAt :: .ref m_keyLength :: .int 0 :: .ref m_outValue :: .ref m_lockAt :: .ref m_lockLength :: .ref m_w :: .ref m_h :: .ref m_once :: .ref m_digest :: .ref m_signHash :: .ref m_buffer :: .ref m_merkle :: .ref m_stack :: .ref m_sizes :: .int 0 :: .ref m_branch :: .ref m_tipCoins :: .ref m_poolCoins :: .ref m_workCoins :: .ref m_path :: .ref m_order :: .ref m_spent :: []))), (m_w, .inl (e10, 64, .inl w)), (m_h, .inl (e11, 8, .inl f_4)), (m_mem, .inl (e1, 281088, .inl f3)), (m_once, .inl (e2, 32, .inl f4))] → va_S A s.heap H locs → lv_has ls 13 [(0, .ref m0), (1, .ref m_mem), (2, .int 135245), (3, .int 17), (4, .ref m_once), (5, .int 0), (6, .int 64), (7, .int 0), (8, .int (nI i)), (9, .int wd), (10, .int (nI j))] → (∀ (wd : Int32) (H : Heap) (locs : List Loc) (ls : Array Slot), va_P (dC, dI) cl_all [(m0, .inr (11, (.ref m_mem :: .int 0 :: .int 0 :: .int 0 :: .ref m_at :: .ref m_length :: .ref m_parent :: .ref m_height :: .ref m_time :: .ref m_target :: .ref m_work :: .ref m_arrival :: .ref m_sound :: .ref m_firstTx :: .ref m_txs :: .ref m_blockId :: .int 1 :: .int 0 :: .int 0 :: .int 0 :: .int 0 :: .ref m_heldLength :: .ref m_heldArrival :: .ref m_heldId :: .int 0 :: .ref m_ids :: .ref m_poolLength :: .ref m_poolFee :: .int 0 :: .int 0 :: .int 0 :: .ref m_inId :: .ref m_inIndex :: .ref m_keyAt :: .ref m_keyLength :: .int 0 :: .ref m_outValue :: .ref m_lockAt :: .ref m_lockLength :: .ref m_w :: .ref m_h :: .ref m_once :: .ref m_digest :: .ref m_signHash :: .ref m_buffer :: .ref m_merkle :: .ref m_stack :: .ref m_sizes :: .int 0 :: .ref m_branch :: .ref m_tipCoins :: .ref m_poolCoins :: .ref m_workCoins :: .ref m_path :: .ref m_order :: .ref m_spent :: []))), (m_w, .inl (e10, 64, .inl w)), (m_h, .inl (e11, 8, .inl f_4)), (m_mem, .inl (e1, 281088, .inl f3)), (m_once, .inl (e2, 32, .inl f4))] H → va_D A [(m0, .inr (11, (.ref m_mem :: .int 0 :: .int 0 :: .int 0 :: .ref m_at :: .ref m_length :: .ref m_parent :: .ref m_height :: .ref m_time :: .ref m_target :: .ref m_work :: .ref m_arrival :: .ref m_sound :: .ref m_firstTx :: .ref m_txs :: .ref m_blockId :: .int 1 :: .int 0 :: .int 0 :: .int 0 :: .int 0 :: .ref m_heldLength :: .ref m_heldArrival :: .ref m_heldId :: .int 0 :: .ref m_ids :: .ref m_poolLength :: .ref m_poolFee :: .int 0 :: .int 0 :: .int 0 :: .ref m_inId :: .ref m_inIndex :: .ref m_keyAt :: .ref m_keyLength :: .int 0 :: .ref m_outValue :: .ref m_lockAt :: .ref m_lockLength :: .ref m_w :: .ref m_h :: .ref m_once :: .ref m_digest :: .ref m_signHash :: .ref m_buffer :: .ref m_merkle :: .ref m_stack :: .ref m_sizes :: .int 0 :: .ref m_branch :: .ref m_tipCoins :: .ref m_poolCoins :: .ref m_workCoins :: .ref m_path :: .ref m_order :: .ref m_spent :: []))), (m_w, .inl (e10, 64, .inl w)), (m_h, .inl (e11, 8, .inl f_4)), (m_mem, .inl (e1, 281088, .inl f3)), (m_once, .inl (e2, 32, .inl f4))] → va_S A s.heap H locs → lv_has ls 13 [(0, .ref m0), (1, .ref m_mem), (2, .int 135245), (3, .int 17), (4, .ref m_once), (5, .int 0), (6, .int 64), (7, .int 0), (8, .int (nI i)), (9, .int wd), (10, .int (nI 4))] → W p l e (headSpec w_Mo_sha ({ frames := 1, cells := 0, slots := 0, locals := 31 })).room s m ([.ref m0, .ref m_mem, .int 135245, .int 17, .ref m_once, .int 0] : List Value).toArray below meth c H locs 0 0 Q (F0 m 172 ls [])) → W p l e (headSpec w_Mo_sha ({ frames := 1, cells := 0, slots := 0, locals := 31 })).room s m ([.ref m0, .ref m_mem, .int 135245, .int 17, .ref m_once, .int 0] : List Value).toArray below meth c H locs 0 0 Q (F0 m 70 ls []) := by
        intro Q n
        induction n with
        | zero =>
          intro j wd H locs ls hi_70 ha_70  hP hD hS hl kx_70
          have hi_70 : j = 4 := by omega
          subst hi_70
          refine lv_iload hx hb d_Mo_sha_70 (lv_at hl 10 rfl) ?_
          refine lv_iconst (v := 4) hx hb d_Mo_sha_72 (by decide) ?_
          refine lv_icmp_ge (tgt := 172) hx hb d_Mo_sha_73 (by decide) (fun _ => ?_) (fun h => absurd ((nI_leI (a := 4) (b := (4)) (by omega) (by omega)).mpr (by omega)) h)
          exact kx_70 wd _ _ _  hP hD hS (lv_sub hl [0, 1, 2, 3, 4, 5, 6, 7, 8, 9, 10] rfl)
        | succ n ih_70 =>
          intro j wd H locs ls hi_70 ha_70  hP hD hS hl kx_70
          refine lv_iload hx hb d_Mo_sha_70 (lv_at hl 10 rfl) ?_
          refine lv_iconst (v := 4) hx hb d_Mo_sha_72 (by decide) ?_
          refine lv_icmp_ge (tgt := 172) hx hb d_Mo_sha_73 (by decide) (fun h => absurd h (fun h9 => absurd ((nI_leI (a := 4) (b := (j)) (by omega) (by omega)).mp h9) (by omega))) (fun _ => ?_)
          refine lv_iload hx hb d_Mo_sha_76 (lv_at hl 7 rfl) ?_
          refine lv_iconst (v := 4) hx hb d_Mo_sha_78 (by decide) ?_
          refine lv_iload hx hb d_Mo_sha_79 (lv_at hl 8 rfl) ?_
          refine lv_imul hx hb d_Mo_sha_81 ?_
          refine zz_i (v := nI (4 * (i))) (pk_mul 4 (i)) ?_
          refine lv_iadd hx hb d_Mo_sha_82 ?_
          refine zz_i (v := nI (0 + (4 * (i)))) (nI_add 0 (4 * (i))) ?_
          refine lv_iload hx hb d_Mo_sha_83 (lv_at hl 10 rfl) ?_
          refine lv_iadd hx hb d_Mo_sha_85 ?_
          refine zz_i (v := nI ((0 + (4 * (i))) + (j))) (nI_add (0 + (4 * (i))) (j)) ?_
          refine lv_istore (lv' := [(11, .int (nI ((0 + (4 * (i))) + (j)))), (0, .ref m0), (1, .ref m_mem), (2, .int 135245), (3, .int 17), (4, .ref m_once), (5, .int 0), (6, .int 64), (7, .int 0), (8, .int (nI i)), (9, .int wd), (10, .int (nI j))]) hx hb d_Mo_sha_86 hl (by decide) rfl (fun ls hl => ?_)
          refine lv_iload hx hb d_Mo_sha_88 (lv_at hl 0 rfl) ?_
          refine lv_iload_n hx hb d_Mo_sha_90 rfl (lv_at hl 4 rfl) ?_
          refine lv_icmp_ge (tgt := 107) hx hb d_Mo_sha_91 (by decide) (fun c_7 => ?_) (fun c_7 => ?_)
          · have c_7n := (nI_leI (a := 17) (b := ((0 + (4 * (i))) + (j))) (by omega) (by omega)).mp c_7
            refine lv_iload hx hb d_Mo_sha_107 (lv_at hl 0 rfl) ?_
            refine lv_iload_n hx hb d_Mo_sha_109 rfl (lv_at hl 4 rfl) ?_
            refine lv_icmp_ne (tgt := 119) hx hb d_Mo_sha_110 (by decide) (fun c_8 => ?_) (fun c_8 => ?_)
            · have c_8n : ¬ ((0 + (4 * (i))) + (j)) = 17 := fun h9 => c_8 ((nI_eq (a := ((0 + (4 * (i))) + (j))) (b := 17) (by omega) (by omega)).mpr h9)
              refine lv_iconst (v := 0) hx hb d_Mo_sha_119 (by decide) ?_
              refine lv_istore (lv' := [(12, .int 0), (11, .int (nI ((0 + (4 * (i))) + (j)))), (0, .ref m0), (1, .ref m_mem), (2, .int 135245), (3, .int 17), (4, .ref m_once), (5, .int 0), (6, .int 64), (7, .int 0), (8, .int (nI i)), (9, .int wd), (10, .int (nI j))]) hx hb d_Mo_sha_120 hl (by decide) rfl (fun ls hl => ?_)
              refine lv_iload hx hb d_Mo_sha_122 (lv_at hl 1 rfl) ?_
              refine lv_iload hx hb d_Mo_sha_124 (lv_at hl 8 rfl) ?_
              refine lv_bipush (v := 8) hx hb d_Mo_sha_126 (by decide) ?_
              refine lv_isub hx hb d_Mo_sha_128 ?_
              refine zz_i (v := 56) (by decide) ?_
              refine lv_icmp_lt (tgt := 156) hx hb d_Mo_sha_129 (by decide) (fun c_9 => ?_) (fun c_9 => ?_)
              · have c_9n := (nI_ltI (a := ((0 + (4 * (i))) + (j))) (b := 56) (by omega) (by omega)).mp c_9
                refine lv_iload hx hb d_Mo_sha_156 (lv_at hl 11 rfl) ?_
                refine lv_bipush (v := 8) hx hb d_Mo_sha_158 (by decide) ?_
                refine lv_ishl hx hb d_Mo_sha_160 ?_
                refine lv_topi (fun x_10 _ => ?_)
                refine lv_iload hx hb d_Mo_sha_161 (lv_at hl 0 rfl) ?_
                refine lv_ior hx hb d_Mo_sha_163 ?_
                refine lv_topi (fun x_11 _ => ?_)
                refine lv_istore (lv' := [(9, .int x_11), (12, .int 0), (11, .int (nI ((0 + (4 * (i))) + (j)))), (0, .ref m0), (1, .ref m_mem), (2, .int 135245), (3, .int 17), (4, .ref m_once), (5, .int 0), (6, .int 64), (7, .int 0), (8, .int (nI i)), (10, .int (nI j))]) hx hb d_Mo_sha_164 hl (by decide) rfl (fun ls hl => ?_)
                refine lv_iinc (v := (nI (j + 1))) (lv' := [(10, .int (nI (j + 1))), (9, .int x_11), (12, .int 0), (11, .int (nI ((0 + (4 * (i))) + (j)))), (0, .ref m0), (1, .ref m_mem), (2, .int 135245), (3, .int 17), (4, .ref m_once), (5, .int 0), (6, .int 64), (7, .int 0), (8, .int (nI i))]) hx hb d_Mo_sha_166 hl (k := 12) rfl (nI_add (j) 1) (by decide) rfl (fun ls hl => ?_)
                refine lv_goto (tgt := 70) hx hb d_Mo_sha_169 (by decide) ?_
                exact ih_70 (j + 1) x_11 _ _ _ (by omega) (by omega)  hP hD hS (lv_sub hl [4, 5, 6, 7, 8, 9, 10, 11, 12, 1, 0] rfl) kx_70
              · have c_9n : ¬ ((0 + (4 * (i))) + (j)) < 56 := fun h9 => c_9 ((nI_ltI (a := ((0 + (4 * (i))) + (j))) (b := 56) (by omega) (by omega)).mpr h9)
                refine lv_iload_n hx hb d_Mo_sha_132 rfl (lv_at hl 5 rfl) ?_
                refine lv_i2l (v := 17) hx hb d_Mo_sha_133 (by decide) ?_
                refine lv_ldc2 hx hb hown (hT _ k_382) d_Mo_sha_134 ?_
                refine lv_lmul hx hb d_Mo_sha_137 ?_
                refine lv_topl (fun x_12 _ => ?_)
                refine lv_bipush (v := 8) hx hb d_Mo_sha_138 (by decide) ?_
                refine lv_iload hx hb d_Mo_sha_140 (lv_at hl 8 rfl) ?_
                refine lv_iconst (v := 1) hx hb d_Mo_sha_142 (by decide) ?_
                refine lv_isub hx hb d_Mo_sha_143 ?_
                refine zz_i (v := 63) (by decide) ?_
                refine lv_iload hx hb d_Mo_sha_144 (lv_at hl 1 rfl) ?_
                refine lv_isub hx hb d_Mo_sha_146 ?_
                refine zz_i (v := nI (63 - ((0 + (4 * (i))) + (j)))) (pk_sub (a := 63) (b := ((0 + (4 * (i))) + (j))) (by omega)) ?_
                refine lv_imul hx hb d_Mo_sha_147 ?_
                refine zz_i (v := nI (8 * (63 - ((0 + (4 * (i))) + (j))))) (pk_mul 8 (63 - ((0 + (4 * (i))) + (j)))) ?_
                refine lv_lushr hx hb d_Mo_sha_148 rfl ?_
                refine lv_topl (fun x_13 _ => ?_)
                refine lv_l2i hx hb d_Mo_sha_149 rfl ?_
                refine lv_topi (fun x_14 _ => ?_)
                refine lv_sipush (v := 255) hx hb d_Mo_sha_150 (by decide) ?_
                refine lv_iand hx hb d_Mo_sha_153 ?_
                refine lv_topi (fun x_15 _ => ?_)
                refine lv_istore (lv' := [(12, .int x_15), (11, .int (nI ((0 + (4 * (i))) + (j)))), (0, .ref m0), (1, .ref m_mem), (2, .int 135245), (3, .int 17), (4, .ref m_once), (5, .int 0), (6, .int 64), (7, .int 0), (8, .int (nI i)), (9, .int wd), (10, .int (nI j))]) hx hb d_Mo_sha_154 hl (by decide) rfl (fun ls hl => ?_)
                refine lv_iload hx hb d_Mo_sha_156 (lv_at hl 11 rfl) ?_
                refine lv_bipush (v := 8) hx hb d_Mo_sha_158 (by decide) ?_
                refine lv_ishl hx hb d_Mo_sha_160 ?_
                refine lv_topi (fun x_16 _ => ?_)
                refine lv_iload hx hb d_Mo_sha_161 (lv_at hl 0 rfl) ?_
                refine lv_ior hx hb d_Mo_sha_163 ?_
                refine lv_topi (fun x_17 _ => ?_)
                refine lv_istore (lv' := [(9, .int x_17), (12, .int x_15), (11, .int (nI ((0 + (4 * (i))) + (j)))), (0, .ref m0), (1, .ref m_mem), (2, .int 135245), (3, .int 17), (4, .ref m_once), (5, .int 0), (6, .int 64), (7, .int 0), (8, .int (nI i)), (10, .int (nI j))]) hx hb d_Mo_sha_164 hl (by decide) rfl (fun ls hl => ?_)
                refine lv_iinc (v := (nI (j + 1))) (lv' := [(10, .int (nI (j + 1))), (9, .int x_17), (12, .int x_15), (11, .int (nI ((0 + (4 * (i))) + (j)))), (0, .ref m0), (1, .ref m_mem), (2, .int 135245), (3, .int 17), (4, .ref m_once), (5, .int 0), (6, .int 64), (7, .int 0), (8, .int (nI i))]) hx hb d_Mo_sha_166 hl (k := 12) rfl (nI_add (j) 1) (by decide) rfl (fun ls hl => ?_)
                refine lv_goto (tgt := 70) hx hb d_Mo_sha_169 (by decide) ?_
                exact ih_70 (j + 1) x_17 _ _ _ (by omega) (by omega)  hP hD hS (lv_sub hl [4, 5, 6, 7, 8, 9, 10, 11, 12, 1, 0] rfl) kx_70
            · have c_8n := (nI_eq (a := ((0 + (4 * (i))) + (j))) (b := 17) (by omega) (by omega)).mp c_8
              refine lv_sipush (v := 128) hx hb d_Mo_sha_113 (by decide) ?_
              refine lv_goto (tgt := 120) hx hb d_Mo_sha_116 (by decide) ?_
              refine lv_istore (lv' := [(12, .int 128), (11, .int (nI ((0 + (4 * (i))) + (j)))), (0, .ref m0), (1, .ref m_mem), (2, .int 135245), (3, .int 17), (4, .ref m_once), (5, .int 0), (6, .int 64), (7, .int 0), (8, .int (nI i)), (9, .int wd), (10, .int (nI j))]) hx hb d_Mo_sha_120 hl (by decide) rfl (fun ls hl => ?_)
              refine lv_iload hx hb d_Mo_sha_122 (lv_at hl 1 rfl) ?_
              refine lv_iload hx hb d_Mo_sha_124 (lv_at hl 8 rfl) ?_
              refine lv_bipush (v := 8) hx hb d_Mo_sha_126 (by decide) ?_
              refine lv_isub hx hb d_Mo_sha_128 ?_
              refine zz_i (v := 56) (by decide) ?_
              refine lv_icmp_lt (tgt := 156) hx hb d_Mo_sha_129 (by decide) (fun c_18 => ?_) (fun c_18 => ?_)
              · have c_18n := (nI_ltI (a := ((0 + (4 * (i))) + (j))) (b := 56) (by omega) (by omega)).mp c_18
                refine lv_iload hx hb d_Mo_sha_156 (lv_at hl 11 rfl) ?_
                refine lv_bipush (v := 8) hx hb d_Mo_sha_158 (by decide) ?_
                refine lv_ishl hx hb d_Mo_sha_160 ?_
                refine lv_topi (fun x_19 _ => ?_)
                refine lv_iload hx hb d_Mo_sha_161 (lv_at hl 0 rfl) ?_
                refine lv_ior hx hb d_Mo_sha_163 ?_
                refine lv_topi (fun x_20 _ => ?_)
                refine lv_istore (lv' := [(9, .int x_20), (12, .int 128), (11, .int (nI ((0 + (4 * (i))) + (j)))), (0, .ref m0), (1, .ref m_mem), (2, .int 135245), (3, .int 17), (4, .ref m_once), (5, .int 0), (6, .int 64), (7, .int 0), (8, .int (nI i)), (10, .int (nI j))]) hx hb d_Mo_sha_164 hl (by decide) rfl (fun ls hl => ?_)
                refine lv_iinc (v := (nI (j + 1))) (lv' := [(10, .int (nI (j + 1))), (9, .int x_20), (12, .int 128), (11, .int (nI ((0 + (4 * (i))) + (j)))), (0, .ref m0), (1, .ref m_mem), (2, .int 135245), (3, .int 17), (4, .ref m_once), (5, .int 0), (6, .int 64), (7, .int 0), (8, .int (nI i))]) hx hb d_Mo_sha_166 hl (k := 12) rfl (nI_add (j) 1) (by decide) rfl (fun ls hl => ?_)
                refine lv_goto (tgt := 70) hx hb d_Mo_sha_169 (by decide) ?_
                exact ih_70 (j + 1) x_20 _ _ _ (by omega) (by omega)  hP hD hS (lv_sub hl [4, 5, 6, 7, 8, 9, 10, 11, 12, 1, 0] rfl) kx_70
              · have c_18n : ¬ ((0 + (4 * (i))) + (j)) < 56 := fun h9 => c_18 ((nI_ltI (a := ((0 + (4 * (i))) + (j))) (b := 56) (by omega) (by omega)).mpr h9)
                refine lv_iload_n hx hb d_Mo_sha_132 rfl (lv_at hl 5 rfl) ?_
                refine lv_i2l (v := 17) hx hb d_Mo_sha_133 (by decide) ?_
                refine lv_ldc2 hx hb hown (hT _ k_382) d_Mo_sha_134 ?_
                refine lv_lmul hx hb d_Mo_sha_137 ?_
                refine lv_topl (fun x_21 _ => ?_)
                refine lv_bipush (v := 8) hx hb d_Mo_sha_138 (by decide) ?_
                refine lv_iload hx hb d_Mo_sha_140 (lv_at hl 8 rfl) ?_
                refine lv_iconst (v := 1) hx hb d_Mo_sha_142 (by decide) ?_
                refine lv_isub hx hb d_Mo_sha_143 ?_
                refine zz_i (v := 63) (by decide) ?_
                refine lv_iload hx hb d_Mo_sha_144 (lv_at hl 1 rfl) ?_
                refine lv_isub hx hb d_Mo_sha_146 ?_
                refine zz_i (v := nI (63 - ((0 + (4 * (i))) + (j)))) (pk_sub (a := 63) (b := ((0 + (4 * (i))) + (j))) (by omega)) ?_
                refine lv_imul hx hb d_Mo_sha_147 ?_
                refine zz_i (v := nI (8 * (63 - ((0 + (4 * (i))) + (j))))) (pk_mul 8 (63 - ((0 + (4 * (i))) + (j)))) ?_
                refine lv_lushr hx hb d_Mo_sha_148 rfl ?_
                refine lv_topl (fun x_22 _ => ?_)
                refine lv_l2i hx hb d_Mo_sha_149 rfl ?_
                refine lv_topi (fun x_23 _ => ?_)
                refine lv_sipush (v := 255) hx hb d_Mo_sha_150 (by decide) ?_
                refine lv_iand hx hb d_Mo_sha_153 ?_
                refine lv_topi (fun x_24 _ => ?_)
                refine lv_istore (lv' := [(12, .int x_24), (11, .int (nI ((0 + (4 * (i))) + (j)))), (0, .ref m0), (1, .ref m_mem), (2, .int 135245), (3, .int 17), (4, .ref m_once), (5, .int 0), (6, .int 64), (7, .int 0), (8, .int (nI i)), (9, .int wd), (10, .int (nI j))]) hx hb d_Mo_sha_154 hl (by decide) rfl (fun ls hl => ?_)
                refine lv_iload hx hb d_Mo_sha_156 (lv_at hl 11 rfl) ?_
                refine lv_bipush (v := 8) hx hb d_Mo_sha_158 (by decide) ?_
                refine lv_ishl hx hb d_Mo_sha_160 ?_
                refine lv_topi (fun x_25 _ => ?_)
                refine lv_iload hx hb d_Mo_sha_161 (lv_at hl 0 rfl) ?_
                refine lv_ior hx hb d_Mo_sha_163 ?_
                refine lv_topi (fun x_26 _ => ?_)
                refine lv_istore (lv' := [(9, .int x_26), (12, .int x_24), (11, .int (nI ((0 + (4 * (i))) + (j)))), (0, .ref m0), (1, .ref m_mem), (2, .int 135245), (3, .int 17), (4, .ref m_once), (5, .int 0), (6, .int 64), (7, .int 0), (8, .int (nI i)), (10, .int (nI j))]) hx hb d_Mo_sha_164 hl (by decide) rfl (fun ls hl => ?_)
                refine lv_iinc (v := (nI (j + 1))) (lv' := [(10, .int (nI (j + 1))), (9, .int x_26), (12, .int x_24), (11, .int (nI ((0 + (4 * (i))) + (j)))), (0, .ref m0), (1, .ref m_mem), (2, .int 135245), (3, .int 17), (4, .ref m_once), (5, .int 0), (6, .int 64), (7, .int 0), (8, .int (nI i))]) hx hb d_Mo_sha_166 hl (k := 12) rfl (nI_add (j) 1) (by decide) rfl (fun ls hl => ?_)
                refine lv_goto (tgt := 70) hx hb d_Mo_sha_169 (by decide) ?_
                exact ih_70 (j + 1) x_26 _ _ _ (by omega) (by omega)  hP hD hS (lv_sub hl [4, 5, 6, 7, 8, 9, 10, 11, 12, 1, 0] rfl) kx_70
          · have c_7n : ¬ 17 ≤ ((0 + (4 * (i))) + (j)) := fun h9 => c_7 ((nI_leI (a := 17) (b := ((0 + (4 * (i))) + (j))) (by omega) (by omega)).mpr h9)
            refine lv_aload_n hx hb d_Mo_sha_94 rfl (lv_at hl 2 rfl) ?_
            refine lv_iload_n hx hb d_Mo_sha_95 rfl (lv_at hl 3 rfl) ?_
            refine lv_iload hx hb d_Mo_sha_96 (lv_at hl 0 rfl) ?_
            refine lv_iadd hx hb d_Mo_sha_98 ?_
            refine zz_i (v := nI (135245 + ((0 + (4 * (i))) + (j)))) (nI_add 135245 ((0 + (4 * (i))) + (j))) ?_
            refine va_bald hx hb hK hP 3 2 rfl rfl (vp_in_nI (by omega) (by omega)) d_Mo_sha_99 ?_
            refine lv_topi (fun x_27 _ => ?_)
            refine lv_sipush (v := 255) hx hb d_Mo_sha_100 (by decide) ?_
            refine lv_iand hx hb d_Mo_sha_103 ?_
            refine lv_topi (fun x_28 _ => ?_)
            refine lv_goto (tgt := 120) hx hb d_Mo_sha_104 (by decide) ?_
            refine lv_istore (lv' := [(12, .int x_28), (11, .int (nI ((0 + (4 * (i))) + (j)))), (0, .ref m0), (1, .ref m_mem), (2, .int 135245), (3, .int 17), (4, .ref m_once), (5, .int 0), (6, .int 64), (7, .int 0), (8, .int (nI i)), (9, .int wd), (10, .int (nI j))]) hx hb d_Mo_sha_120 hl (by decide) rfl (fun ls hl => ?_)
            refine lv_iload hx hb d_Mo_sha_122 (lv_at hl 1 rfl) ?_
            refine lv_iload hx hb d_Mo_sha_124 (lv_at hl 8 rfl) ?_
            refine lv_bipush (v := 8) hx hb d_Mo_sha_126 (by decide) ?_
            refine lv_isub hx hb d_Mo_sha_128 ?_
            refine zz_i (v := 56) (by decide) ?_
            refine lv_icmp_lt (tgt := 156) hx hb d_Mo_sha_129 (by decide) (fun c_29 => ?_) (fun c_29 => ?_)
            · have c_29n := (nI_ltI (a := ((0 + (4 * (i))) + (j))) (b := 56) (by omega) (by omega)).mp c_29
              refine lv_iload hx hb d_Mo_sha_156 (lv_at hl 11 rfl) ?_
              refine lv_bipush (v := 8) hx hb d_Mo_sha_158 (by decide) ?_
              refine lv_ishl hx hb d_Mo_sha_160 ?_
              refine lv_topi (fun x_30 _ => ?_)
              refine lv_iload hx hb d_Mo_sha_161 (lv_at hl 0 rfl) ?_
              refine lv_ior hx hb d_Mo_sha_163 ?_
              refine lv_topi (fun x_31 _ => ?_)
              refine lv_istore (lv' := [(9, .int x_31), (12, .int x_28), (11, .int (nI ((0 + (4 * (i))) + (j)))), (0, .ref m0), (1, .ref m_mem), (2, .int 135245), (3, .int 17), (4, .ref m_once), (5, .int 0), (6, .int 64), (7, .int 0), (8, .int (nI i)), (10, .int (nI j))]) hx hb d_Mo_sha_164 hl (by decide) rfl (fun ls hl => ?_)
              refine lv_iinc (v := (nI (j + 1))) (lv' := [(10, .int (nI (j + 1))), (9, .int x_31), (12, .int x_28), (11, .int (nI ((0 + (4 * (i))) + (j)))), (0, .ref m0), (1, .ref m_mem), (2, .int 135245), (3, .int 17), (4, .ref m_once), (5, .int 0), (6, .int 64), (7, .int 0), (8, .int (nI i))]) hx hb d_Mo_sha_166 hl (k := 12) rfl (nI_add (j) 1) (by decide) rfl (fun ls hl => ?_)
              refine lv_goto (tgt := 70) hx hb d_Mo_sha_169 (by decide) ?_
              exact ih_70 (j + 1) x_31 _ _ _ (by omega) (by omega)  hP hD hS (lv_sub hl [4, 5, 6, 7, 8, 9, 10, 11, 12, 1, 0] rfl) kx_70
            · have c_29n : ¬ ((0 + (4 * (i))) + (j)) < 56 := fun h9 => c_29 ((nI_ltI (a := ((0 + (4 * (i))) + (j))) (b := 56) (by omega) (by omega)).mpr h9)
              refine lv_iload_n hx hb d_Mo_sha_132 rfl (lv_at hl 5 rfl) ?_
              refine lv_i2l (v := 17) hx hb d_Mo_sha_133 (by decide) ?_
              refine lv_ldc2 hx hb hown (hT _ k_382) d_Mo_sha_134 ?_
              refine lv_lmul hx hb d_Mo_sha_137 ?_
              refine lv_topl (fun x_32 _ => ?_)
              refine lv_bipush (v := 8) hx hb d_Mo_sha_138 (by decide) ?_
              refine lv_iload hx hb d_Mo_sha_140 (lv_at hl 8 rfl) ?_
              refine lv_iconst (v := 1) hx hb d_Mo_sha_142 (by decide) ?_
              refine lv_isub hx hb d_Mo_sha_143 ?_
              refine zz_i (v := 63) (by decide) ?_
              refine lv_iload hx hb d_Mo_sha_144 (lv_at hl 1 rfl) ?_
              refine lv_isub hx hb d_Mo_sha_146 ?_
              refine zz_i (v := nI (63 - ((0 + (4 * (i))) + (j)))) (pk_sub (a := 63) (b := ((0 + (4 * (i))) + (j))) (by omega)) ?_
              refine lv_imul hx hb d_Mo_sha_147 ?_
              refine zz_i (v := nI (8 * (63 - ((0 + (4 * (i))) + (j))))) (pk_mul 8 (63 - ((0 + (4 * (i))) + (j)))) ?_
              refine lv_lushr hx hb d_Mo_sha_148 rfl ?_
              refine lv_topl (fun x_33 _ => ?_)
              refine lv_l2i hx hb d_Mo_sha_149 rfl ?_
              refine lv_topi (fun x_34 _ => ?_)
              refine lv_sipush (v := 255) hx hb d_Mo_sha_150 (by decide) ?_
              refine lv_iand hx hb d_Mo_sha_153 ?_
              refine lv_topi (fun x_35 _ => ?_)
              refine lv_istore (lv' := [(12, .int x_35), (11, .int (nI ((0 + (4 * (i))) + (j)))), (0, .ref m0), (1, .ref m_mem), (2, .int 135245), (3, .int 17), (4, .ref m_once), (5, .int 0), (6, .int 64), (7, .int 0), (8, .int (nI i)), (9, .int wd), (10, .int (nI j))]) hx hb d_Mo_sha_154 hl (by decide) rfl (fun ls hl => ?_)
              refine lv_iload hx hb d_Mo_sha_156 (lv_at hl 11 rfl) ?_
              refine lv_bipush (v := 8) hx hb d_Mo_sha_158 (by decide) ?_
              refine lv_ishl hx hb d_Mo_sha_160 ?_
              refine lv_topi (fun x_36 _ => ?_)
              refine lv_iload hx hb d_Mo_sha_161 (lv_at hl 0 rfl) ?_
              refine lv_ior hx hb d_Mo_sha_163 ?_
              refine lv_topi (fun x_37 _ => ?_)
              refine lv_istore (lv' := [(9, .int x_37), (12, .int x_35), (11, .int (nI ((0 + (4 * (i))) + (j)))), (0, .ref m0), (1, .ref m_mem), (2, .int 135245), (3, .int 17), (4, .ref m_once), (5, .int 0), (6, .int 64), (7, .int 0), (8, .int (nI i)), (10, .int (nI j))]) hx hb d_Mo_sha_164 hl (by decide) rfl (fun ls hl => ?_)
              refine lv_iinc (v := (nI (j + 1))) (lv' := [(10, .int (nI (j + 1))), (9, .int x_37), (12, .int x_35), (11, .int (nI ((0 + (4 * (i))) + (j)))), (0, .ref m0), (1, .ref m_mem), (2, .int 135245), (3, .int 17), (4, .ref m_once), (5, .int 0), (6, .int 64), (7, .int 0), (8, .int (nI i))]) hx hb d_Mo_sha_166 hl (k := 12) rfl (nI_add (j) 1) (by decide) rfl (fun ls hl => ?_)
              refine lv_goto (tgt := 70) hx hb d_Mo_sha_169 (by decide) ?_
              exact ih_70 (j + 1) x_37 _ _ _ (by omega) (by omega)  hP hD hS (lv_sub hl [4, 5, 6, 7, 8, 9, 10, 11, 12, 1, 0] rfl) kx_70
      refine lp70_6 _ (4 - 0) 0 0 _ _ _ (by omega) (by omega)  hP hD hS (lv_sub hl [2, 3, 4, 5, 6, 7, 8, 9, 10, 1, 0] rfl) (fun x_38 H locs ls  hP hD hS hl => ?_)
      refine lv_aload_n hx hb d_Mo_sha_172 rfl (lv_at hl 0 rfl) ?_
      refine va_get (D := (dC, dI)) (ci := 11) (v := .ref m_w) (C := R_Mo) (T := F_Mo) (N := 56) hx hb hT i_Mo hown hK hP 0 rfl rfl 39 (by decide) (hT _ k_318) (fun _ h9 => h9) rfl d_Mo_sha_173 ?_
      refine lv_iload hx hb d_Mo_sha_176 (lv_at hl 8 rfl) ?_
      refine lv_iload hx hb d_Mo_sha_178 (lv_at hl 9 rfl) ?_
      refine zz_iast hx hb hK hP hD hS 1 0 rfl rfl (vp_in_nI (by omega) (by omega)) d_Mo_sha_180 (fun f_39 H locs hP hD hS => ?_)
      have hP : va_P (dC, dI) cl_all [(m0, .inr (11, (.ref m_mem :: .int 0 :: .int 0 :: .int 0 :: .ref m_at :: .ref m_length :: .ref m_parent :: .ref m_height :: .ref m_time :: .ref m_target :: .ref m_work :: .ref m_arrival :: .ref m_sound :: .ref m_firstTx :: .ref m_txs :: .ref m_blockId :: .int 1 :: .int 0 :: .int 0 :: .int 0 :: .int 0 :: .ref m_heldLength :: .ref m_heldArrival :: .ref m_heldId :: .int 0 :: .ref m_ids :: .ref m_poolLength :: .ref m_poolFee :: .int 0 :: .int 0 :: .int 0 :: .ref m_inId :: .ref m_inIndex :: .ref m_keyAt :: .ref m_keyLength :: .int 0 :: .ref m_outValue :: .ref m_lockAt :: .ref m_lockLength :: .ref m_w :: .ref m_h :: .ref m_once :: .ref m_digest :: .ref m_signHash :: .ref m_buffer :: .ref m_merkle :: .ref m_stack :: .ref m_sizes :: .int 0 :: .ref m_branch :: .ref m_tipCoins :: .ref m_poolCoins :: .ref m_workCoins :: .ref m_path :: .ref m_order :: .ref m_spent :: []))), (m_w, .inl (e10, 64, .inl f_39)), (m_h, .inl (e11, 8, .inl f_4)), (m_mem, .inl (e1, 281088, .inl f3)), (m_once, .inl (e2, 32, .inl f4))] H := hP
      have hD : va_D A [(m0, .inr (11, (.ref m_mem :: .int 0 :: .int 0 :: .int 0 :: .ref m_at :: .ref m_length :: .ref m_parent :: .ref m_height :: .ref m_time :: .ref m_target :: .ref m_work :: .ref m_arrival :: .ref m_sound :: .ref m_firstTx :: .ref m_txs :: .ref m_blockId :: .int 1 :: .int 0 :: .int 0 :: .int 0 :: .int 0 :: .ref m_heldLength :: .ref m_heldArrival :: .ref m_heldId :: .int 0 :: .ref m_ids :: .ref m_poolLength :: .ref m_poolFee :: .int 0 :: .int 0 :: .int 0 :: .ref m_inId :: .ref m_inIndex :: .ref m_keyAt :: .ref m_keyLength :: .int 0 :: .ref m_outValue :: .ref m_lockAt :: .ref m_lockLength :: .ref m_w :: .ref m_h :: .ref m_once :: .ref m_digest :: .ref m_signHash :: .ref m_buffer :: .ref m_merkle :: .ref m_stack :: .ref m_sizes :: .int 0 :: .ref m_branch :: .ref m_tipCoins :: .ref m_poolCoins :: .ref m_workCoins :: .ref m_path :: .ref m_order :: .ref m_spent :: []))), (m_w, .inl (e10, 64, .inl f_39)), (m_h, .inl (e11, 8, .inl f_4)), (m_mem, .inl (e1, 281088, .inl f3)), (m_once, .inl (e2, 32, .inl f4))] := hD
      refine lv_iinc (v := (nI (i + 1))) (lv' := [(8, .int (nI (i + 1))), (0, .ref m0), (1, .ref m_mem), (2, .int 135245), (3, .int 17), (4, .ref m_once), (5, .int 0), (6, .int 64), (7, .int 0), (9, .int x_38), (10, .int (nI 4))]) hx hb d_Mo_sha_181 hl (k := 8) rfl (nI_add (i) 1) (by decide) rfl (fun ls hl => ?_)
      refine lv_goto (tgt := 57) hx hb d_Mo_sha_184 (by decide) ?_
      exact ih_57 (i + 1) f_39 _ _ _ (by omega) (by omega)  hP hD hS (lv_sub hl [1, 2, 3, 4, 5, 6, 7, 8, 0] rfl) kx_57
  refine lp57_5 _ (16 - 0) 0 f1 _ _ _ (by omega) (by omega)  hP hD hS (lv_sub hl [3, 4, 5, 6, 7, 8, 2, 1, 0] rfl) (fun f_40 H locs ls  hP hD hS hl => ?_)
  refine lv_aload_n hx hb d_Mo_sha_187 rfl (lv_at hl 0 rfl) ?_
  have hPc := hP.sub (ws' := [(m0, .inr (11, (.ref m_mem :: .int 0 :: .int 0 :: .int 0 :: .ref m_at :: .ref m_length :: .ref m_parent :: .ref m_height :: .ref m_time :: .ref m_target :: .ref m_work :: .ref m_arrival :: .ref m_sound :: .ref m_firstTx :: .ref m_txs :: .ref m_blockId :: .int 1 :: .int 0 :: .int 0 :: .int 0 :: .int 0 :: .ref m_heldLength :: .ref m_heldArrival :: .ref m_heldId :: .int 0 :: .ref m_ids :: .ref m_poolLength :: .ref m_poolFee :: .int 0 :: .int 0 :: .int 0 :: .ref m_inId :: .ref m_inIndex :: .ref m_keyAt :: .ref m_keyLength :: .int 0 :: .ref m_outValue :: .ref m_lockAt :: .ref m_lockLength :: .ref m_w :: .ref m_h :: .ref m_once :: .ref m_digest :: .ref m_signHash :: .ref m_buffer :: .ref m_merkle :: .ref m_stack :: .ref m_sizes :: .int 0 :: .ref m_branch :: .ref m_tipCoins :: .ref m_poolCoins :: .ref m_workCoins :: .ref m_path :: .ref m_order :: .ref m_spent :: []))), (m_w, .inl (e10, 64, .inl f_40)), (m_h, .inl (e11, 8, .inl f_4))]) [0, 1, 2] rfl
  have hDc := hD.sub (ws' := [(m0, .inr (11, (.ref m_mem :: .int 0 :: .int 0 :: .int 0 :: .ref m_at :: .ref m_length :: .ref m_parent :: .ref m_height :: .ref m_time :: .ref m_target :: .ref m_work :: .ref m_arrival :: .ref m_sound :: .ref m_firstTx :: .ref m_txs :: .ref m_blockId :: .int 1 :: .int 0 :: .int 0 :: .int 0 :: .int 0 :: .ref m_heldLength :: .ref m_heldArrival :: .ref m_heldId :: .int 0 :: .ref m_ids :: .ref m_poolLength :: .ref m_poolFee :: .int 0 :: .int 0 :: .int 0 :: .ref m_inId :: .ref m_inIndex :: .ref m_keyAt :: .ref m_keyLength :: .int 0 :: .ref m_outValue :: .ref m_lockAt :: .ref m_lockLength :: .ref m_w :: .ref m_h :: .ref m_once :: .ref m_digest :: .ref m_signHash :: .ref m_buffer :: .ref m_merkle :: .ref m_stack :: .ref m_sizes :: .int 0 :: .ref m_branch :: .ref m_tipCoins :: .ref m_poolCoins :: .ref m_workCoins :: .ref m_path :: .ref m_order :: .ref m_spent :: []))), (m_w, .inl (e10, 64, .inl f_40)), (m_h, .inl (e11, 8, .inl f_4))]) [0, 1, 2] (by decide) rfl
  have hKc := hK.sub (tys' := [(e10, .int), (e11, .int)]) [0, 1] rfl
  have hFc := va_free (wc := [(m0, .inr (11, (.ref m_mem :: .int 0 :: .int 0 :: .int 0 :: .ref m_at :: .ref m_length :: .ref m_parent :: .ref m_height :: .ref m_time :: .ref m_target :: .ref m_work :: .ref m_arrival :: .ref m_sound :: .ref m_firstTx :: .ref m_txs :: .ref m_blockId :: .int 1 :: .int 0 :: .int 0 :: .int 0 :: .int 0 :: .ref m_heldLength :: .ref m_heldArrival :: .ref m_heldId :: .int 0 :: .ref m_ids :: .ref m_poolLength :: .ref m_poolFee :: .int 0 :: .int 0 :: .int 0 :: .ref m_inId :: .ref m_inIndex :: .ref m_keyAt :: .ref m_keyLength :: .int 0 :: .ref m_outValue :: .ref m_lockAt :: .ref m_lockLength :: .ref m_w :: .ref m_h :: .ref m_once :: .ref m_digest :: .ref m_signHash :: .ref m_buffer :: .ref m_merkle :: .ref m_stack :: .ref m_sizes :: .int 0 :: .ref m_branch :: .ref m_tipCoins :: .ref m_poolCoins :: .ref m_workCoins :: .ref m_path :: .ref m_order :: .ref m_spent :: []))), (m_w, .inl (e10, 64, .inl f_40)), (m_h, .inl (e11, 8, .inl f_4))]) hD hS hA [0, 1, 2] rfl
  refine va_callv (va_runV (C := R_Mo) (As := []) (rest := []) ⟨hx, hb, hml, hown, hT⟩ (c_Mo_round l dC dI z H.size m0 m_mem m_at m_length m_parent m_height m_time m_target m_work m_arrival m_sound m_firstTx m_txs m_blockId m_heldLength m_heldArrival m_heldId m_ids m_poolLength m_poolFee m_inId m_inIndex m_keyAt m_keyLength m_outValue m_lockAt m_lockLength m_w m_h m_once m_digest m_signHash m_buffer m_merkle m_stack m_sizes m_branch m_tipCoins m_poolCoins m_workCoins m_path m_order m_spent e10 e11 f_40 f_4) ⟨callB_of 0 hT g_Mo_round rfl rfl rfl (hT _ k_342) (hT _ k_383) (by decide +kernel) ⟨Nat.le_of_ble_eq_true rfl, Nat.le_of_ble_eq_true rfl⟩, (hT _ k_384), (hT _ k_385)⟩ (zz_preV hPc hKc hDc hZ hS hFc hK hP (ci := 11) (q0 := 0) (q := (R_Mo, F_Mo, 56)) rfl rfl) rfl rfl hl.1 rfl (lv_room (Nat.le_of_ble_eq_true rfl)) d_Mo_sha_188 ⟨Nat.le_of_ble_eq_true rfl, Nat.le_of_ble_eq_true rfl⟩) hS (fun q _ h => hFc q h) hFc (fun u9 t9 H1 locs ht9 hvm9 hw9 hB9 hz19 hk19 hS => ?_)
  obtain ⟨f_42, f_43, hP1, hK1, hD1⟩ := hB9
  rw [ht9] at hP1
  obtain ⟨hP, hD⟩ := va_join (wr := [(m_mem, .inl (e1, 281088, .inl f3)), (m_once, .inl (e2, 32, .inl f4))]) (w1 := [(m0, .inr (11, (.ref m_mem :: .int 0 :: .int 0 :: .int 0 :: .ref m_at :: .ref m_length :: .ref m_parent :: .ref m_height :: .ref m_time :: .ref m_target :: .ref m_work :: .ref m_arrival :: .ref m_sound :: .ref m_firstTx :: .ref m_txs :: .ref m_blockId :: .int 1 :: .int 0 :: .int 0 :: .int 0 :: .int 0 :: .ref m_heldLength :: .ref m_heldArrival :: .ref m_heldId :: .int 0 :: .ref m_ids :: .ref m_poolLength :: .ref m_poolFee :: .int 0 :: .int 0 :: .int 0 :: .ref m_inId :: .ref m_inIndex :: .ref m_keyAt :: .ref m_keyLength :: .int 0 :: .ref m_outValue :: .ref m_lockAt :: .ref m_lockLength :: .ref m_w :: .ref m_h :: .ref m_once :: .ref m_digest :: .ref m_signHash :: .ref m_buffer :: .ref m_merkle :: .ref m_stack :: .ref m_sizes :: .int 0 :: .ref m_branch :: .ref m_tipCoins :: .ref m_poolCoins :: .ref m_workCoins :: .ref m_path :: .ref m_order :: .ref m_spent :: []))), (m_w, .inl (e10, 64, .inl f_42)), (m_h, .inl (e11, 8, .inl f_43))]) hP hD [0, 1, 2] [3, 4] rfl rfl (by decide) (by decide) hk19 hFc hP1 hD1
  generalize H1 = H at hP hS ⊢
  have hP : va_P (dC, dI) cl_all [(m_mem, .inl (e1, 281088, .inl f3)), (m_once, .inl (e2, 32, .inl f4)), (m0, .inr (11, (.ref m_mem :: .int 0 :: .int 0 :: .int 0 :: .ref m_at :: .ref m_length :: .ref m_parent :: .ref m_height :: .ref m_time :: .ref m_target :: .ref m_work :: .ref m_arrival :: .ref m_sound :: .ref m_firstTx :: .ref m_txs :: .ref m_blockId :: .int 1 :: .int 0 :: .int 0 :: .int 0 :: .int 0 :: .ref m_heldLength :: .ref m_heldArrival :: .ref m_heldId :: .int 0 :: .ref m_ids :: .ref m_poolLength :: .ref m_poolFee :: .int 0 :: .int 0 :: .int 0 :: .ref m_inId :: .ref m_inIndex :: .ref m_keyAt :: .ref m_keyLength :: .int 0 :: .ref m_outValue :: .ref m_lockAt :: .ref m_lockLength :: .ref m_w :: .ref m_h :: .ref m_once :: .ref m_digest :: .ref m_signHash :: .ref m_buffer :: .ref m_merkle :: .ref m_stack :: .ref m_sizes :: .int 0 :: .ref m_branch :: .ref m_tipCoins :: .ref m_poolCoins :: .ref m_workCoins :: .ref m_path :: .ref m_order :: .ref m_spent :: []))), (m_w, .inl (e10, 64, .inl f_42)), (m_h, .inl (e11, 8, .inl f_43))] H := hP
  have hD : va_D A [(m_mem, .inl (e1, 281088, .inl f3)), (m_once, .inl (e2, 32, .inl f4)), (m0, .inr (11, (.ref m_mem :: .int 0 :: .int 0 :: .int 0 :: .ref m_at :: .ref m_length :: .ref m_parent :: .ref m_height :: .ref m_time :: .ref m_target :: .ref m_work :: .ref m_arrival :: .ref m_sound :: .ref m_firstTx :: .ref m_txs :: .ref m_blockId :: .int 1 :: .int 0 :: .int 0 :: .int 0 :: .int 0 :: .ref m_heldLength :: .ref m_heldArrival :: .ref m_heldId :: .int 0 :: .ref m_ids :: .ref m_poolLength :: .ref m_poolFee :: .int 0 :: .int 0 :: .int 0 :: .ref m_inId :: .ref m_inIndex :: .ref m_keyAt :: .ref m_keyLength :: .int 0 :: .ref m_outValue :: .ref m_lockAt :: .ref m_lockLength :: .ref m_w :: .ref m_h :: .ref m_once :: .ref m_digest :: .ref m_signHash :: .ref m_buffer :: .ref m_merkle :: .ref m_stack :: .ref m_sizes :: .int 0 :: .ref m_branch :: .ref m_tipCoins :: .ref m_poolCoins :: .ref m_workCoins :: .ref m_path :: .ref m_order :: .ref m_spent :: []))), (m_w, .inl (e10, 64, .inl f_42)), (m_h, .inl (e11, 8, .inl f_43))] := hD
  refine lv_iinc (v := 64) (lv' := [(7, .int 64), (0, .ref m0), (1, .ref m_mem), (2, .int 135245), (3, .int 17), (4, .ref m_once), (5, .int 0), (6, .int 64), (8, .int (nI 16))]) hx hb d_Mo_sha_191 hl (k := 7) rfl (by decide) (by decide) rfl (fun ls hl => ?_)
  refine lv_goto (tgt := 47) hx hb d_Mo_sha_194 (by decide) ?_
  refine lv_iload hx hb d_Mo_sha_47 (lv_at hl 0 rfl) ?_
  refine lv_iload hx hb d_Mo_sha_49 (lv_at hl 7 rfl) ?_
  refine lv_icmp_ge (tgt := 197) hx hb d_Mo_sha_51 (by decide) (fun _ => ?_) (fun h => absurd (by decide) h)
  refine lv_iconst (v := 0) hx hb d_Mo_sha_197 (by decide) ?_
  refine lv_istore (lv' := [(7, .int 0), (0, .ref m0), (1, .ref m_mem), (2, .int 135245), (3, .int 17), (4, .ref m_once), (5, .int 0), (6, .int 64), (8, .int (nI 16))]) hx hb d_Mo_sha_198 hl (by decide) rfl (fun ls hl => ?_)
  have lp200_44 : ∀ (Q : State → Prop) (n i : Nat) (to : Nat → Int32) (H : Heap) (locs : List Loc) (ls : Array Slot), i + n = 32 → 0 ≤ i → sb_Fit to → va_P (dC, dI) cl_all [(m_mem, .inl (e1, 281088, .inl f3)), (m_once, .inl (e2, 32, .inl to)), (m0, .inr (11, (.ref m_mem :: .int 0 :: .int 0 :: .int 0 :: .ref m_at :: .ref m_length :: .ref m_parent :: .ref m_height :: .ref m_time :: .ref m_target :: .ref m_work :: .ref m_arrival :: .ref m_sound :: .ref m_firstTx :: .ref m_txs :: .ref m_blockId :: .int 1 :: .int 0 :: .int 0 :: .int 0 :: .int 0 :: .ref m_heldLength :: .ref m_heldArrival :: .ref m_heldId :: .int 0 :: .ref m_ids :: .ref m_poolLength :: .ref m_poolFee :: .int 0 :: .int 0 :: .int 0 :: .ref m_inId :: .ref m_inIndex :: .ref m_keyAt :: .ref m_keyLength :: .int 0 :: .ref m_outValue :: .ref m_lockAt :: .ref m_lockLength :: .ref m_w :: .ref m_h :: .ref m_once :: .ref m_digest :: .ref m_signHash :: .ref m_buffer :: .ref m_merkle :: .ref m_stack :: .ref m_sizes :: .int 0 :: .ref m_branch :: .ref m_tipCoins :: .ref m_poolCoins :: .ref m_workCoins :: .ref m_path :: .ref m_order :: .ref m_spent :: []))), (m_w, .inl (e10, 64, .inl f_42)), (m_h, .inl (e11, 8, .inl f_43))] H → va_D A [(m_mem, .inl (e1, 281088, .inl f3)), (m_once, .inl (e2, 32, .inl to)), (m0, .inr (11, (.ref m_mem :: .int 0 :: .int 0 :: .int 0 :: .ref m_at :: .ref m_length :: .ref m_parent :: .ref m_height :: .ref m_time :: .ref m_target :: .ref m_work :: .ref m_arrival :: .ref m_sound :: .ref m_firstTx :: .ref m_txs :: .ref m_blockId :: .int 1 :: .int 0 :: .int 0 :: .int 0 :: .int 0 :: .ref m_heldLength :: .ref m_heldArrival :: .ref m_heldId :: .int 0 :: .ref m_ids :: .ref m_poolLength :: .ref m_poolFee :: .int 0 :: .int 0 :: .int 0 :: .ref m_inId :: .ref m_inIndex :: .ref m_keyAt :: .ref m_keyLength :: .int 0 :: .ref m_outValue :: .ref m_lockAt :: .ref m_lockLength :: .ref m_w :: .ref m_h :: .ref m_once :: .ref m_digest :: .ref m_signHash :: .ref m_buffer :: .ref m_merkle :: .ref m_stack :: .ref m_sizes :: .int 0 :: .ref m_branch :: .ref m_tipCoins :: .ref m_poolCoins :: .ref m_workCoins :: .ref m_path :: .ref m_order :: .ref m_spent :: []))), (m_w, .inl (e10, 64, .inl f_42)), (m_h, .inl (e11, 8, .inl f_43))] → va_S A s.heap H locs → lv_has ls 13 [(0, .ref m0), (1, .ref m_mem), (2, .int 135245), (3, .int 17), (4, .ref m_once), (5, .int 0), (6, .int 64), (7, .int (nI i))] → (∀ (to : Nat → Int32) (H : Heap) (locs : List Loc) (ls : Array Slot), sb_Fit to → va_P (dC, dI) cl_all [(m_mem, .inl (e1, 281088, .inl f3)), (m_once, .inl (e2, 32, .inl to)), (m0, .inr (11, (.ref m_mem :: .int 0 :: .int 0 :: .int 0 :: .ref m_at :: .ref m_length :: .ref m_parent :: .ref m_height :: .ref m_time :: .ref m_target :: .ref m_work :: .ref m_arrival :: .ref m_sound :: .ref m_firstTx :: .ref m_txs :: .ref m_blockId :: .int 1 :: .int 0 :: .int 0 :: .int 0 :: .int 0 :: .ref m_heldLength :: .ref m_heldArrival :: .ref m_heldId :: .int 0 :: .ref m_ids :: .ref m_poolLength :: .ref m_poolFee :: .int 0 :: .int 0 :: .int 0 :: .ref m_inId :: .ref m_inIndex :: .ref m_keyAt :: .ref m_keyLength :: .int 0 :: .ref m_outValue :: .ref m_lockAt :: .ref m_lockLength :: .ref m_w :: .ref m_h :: .ref m_once :: .ref m_digest :: .ref m_signHash :: .ref m_buffer :: .ref m_merkle :: .ref m_stack :: .ref m_sizes :: .int 0 :: .ref m_branch :: .ref m_tipCoins :: .ref m_poolCoins :: .ref m_workCoins :: .ref m_path :: .ref m_order :: .ref m_spent :: []))), (m_w, .inl (e10, 64, .inl f_42)), (m_h, .inl (e11, 8, .inl f_43))] H → va_D A [(m_mem, .inl (e1, 281088, .inl f3)), (m_once, .inl (e2, 32, .inl to)), (m0, .inr (11, (.ref m_mem :: .int 0 :: .int 0 :: .int 0 :: .ref m_at :: .ref m_length :: .ref m_parent :: .ref m_height :: .ref m_time :: .ref m_target :: .ref m_work :: .ref m_arrival :: .ref m_sound :: .ref m_firstTx :: .ref m_txs :: .ref m_blockId :: .int 1 :: .int 0 :: .int 0 :: .int 0 :: .int 0 :: .ref m_heldLength :: .ref m_heldArrival :: .ref m_heldId :: .int 0 :: .ref m_ids :: .ref m_poolLength :: .ref m_poolFee :: .int 0 :: .int 0 :: .int 0 :: .ref m_inId :: .ref m_inIndex :: .ref m_keyAt :: .ref m_keyLength :: .int 0 :: .ref m_outValue :: .ref m_lockAt :: .ref m_lockLength :: .ref m_w :: .ref m_h :: .ref m_once :: .ref m_digest :: .ref m_signHash :: .ref m_buffer :: .ref m_merkle :: .ref m_stack :: .ref m_sizes :: .int 0 :: .ref m_branch :: .ref m_tipCoins :: .ref m_poolCoins :: .ref m_workCoins :: .ref m_path :: .ref m_order :: .ref m_spent :: []))), (m_w, .inl (e10, 64, .inl f_42)), (m_h, .inl (e11, 8, .inl f_43))] → va_S A s.heap H locs → lv_has ls 13 [(0, .ref m0), (1, .ref m_mem), (2, .int 135245), (3, .int 17), (4, .ref m_once), (5, .int 0), (6, .int 64), (7, .int (nI 32))] → W p l e (headSpec w_Mo_sha ({ frames := 1, cells := 0, slots := 0, locals := 31 })).room s m ([.ref m0, .ref m_mem, .int 135245, .int 17, .ref m_once, .int 0] : List Value).toArray below meth c H locs 0 0 Q (F0 m 242 ls [])) → W p l e (headSpec w_Mo_sha ({ frames := 1, cells := 0, slots := 0, locals := 31 })).room s m ([.ref m0, .ref m_mem, .int 135245, .int 17, .ref m_once, .int 0] : List Value).toArray below meth c H locs 0 0 Q (F0 m 200 ls []) := by
    intro Q n
    induction n with
    | zero =>
      intro i to H locs ls hi_200 ha_200 hf_to hP hD hS hl kx_200
      have hi_200 : i = 32 := by omega
      subst hi_200
      refine lv_iload hx hb d_Mo_sha_200 (lv_at hl 7 rfl) ?_
      refine lv_bipush (v := 32) hx hb d_Mo_sha_202 (by decide) ?_
      refine lv_icmp_ge (tgt := 242) hx hb d_Mo_sha_204 (by decide) (fun _ => ?_) (fun h => absurd ((nI_leI (a := 32) (b := (32)) (by omega) (by omega)).mpr (by omega)) h)
      exact kx_200 to _ _ _ hf_to hP hD hS (lv_sub hl [0, 1, 2, 3, 4, 5, 6, 7] rfl)
    | succ n ih_200 =>
      intro i to H locs ls hi_200 ha_200 hf_to hP hD hS hl kx_200
      refine lv_iload hx hb d_Mo_sha_200 (lv_at hl 7 rfl) ?_
      refine lv_bipush (v := 32) hx hb d_Mo_sha_202 (by decide) ?_
      refine lv_icmp_ge (tgt := 242) hx hb d_Mo_sha_204 (by decide) (fun h => absurd h (fun h9 => absurd ((nI_leI (a := 32) (b := (i)) (by omega) (by omega)).mp h9) (by omega))) (fun _ => ?_)
      refine lv_aload hx hb d_Mo_sha_207 (lv_at hl 4 rfl) ?_
      refine lv_iload hx hb d_Mo_sha_209 (lv_at hl 5 rfl) ?_
      refine lv_iload hx hb d_Mo_sha_211 (lv_at hl 7 rfl) ?_
      refine lv_iadd hx hb d_Mo_sha_213 ?_
      refine zz_i (v := nI (0 + (i))) (nI_add 0 (i)) ?_
      refine lv_aload_n hx hb d_Mo_sha_214 rfl (lv_at hl 0 rfl) ?_
      refine va_get (D := (dC, dI)) (ci := 11) (v := .ref m_h) (C := R_Mo) (T := F_Mo) (N := 56) hx hb hT i_Mo hown hK hP 2 rfl rfl 40 (by decide) (hT _ k_319) (fun _ h9 => h9) rfl d_Mo_sha_215 ?_
      refine lv_iload hx hb d_Mo_sha_218 (lv_at hl 7 rfl) ?_
      refine lv_iconst (v := 4) hx hb d_Mo_sha_220 (by decide) ?_
      refine lv_idiv hx hb d_Mo_sha_221 (by decide) ?_
      refine zz_i (v := nI ((i) / 4)) (pk_div (a := (i)) (d := 4) (by omega) (by decide) (by decide)) ?_
      refine va_iald hx hb hK hP 4 1 rfl rfl (vp_in_nI (by omega) (by omega)) d_Mo_sha_222 ?_
      refine lv_topi (fun x_45 _ => ?_)
      refine lv_bipush (v := 24) hx hb d_Mo_sha_223 (by decide) ?_
      refine lv_bipush (v := 8) hx hb d_Mo_sha_225 (by decide) ?_
      refine lv_iload hx hb d_Mo_sha_227 (lv_at hl 7 rfl) ?_
      refine lv_iconst (v := 4) hx hb d_Mo_sha_229 (by decide) ?_
      refine lv_irem hx hb d_Mo_sha_230 (by decide) ?_
      refine zz_i (v := nI ((i) % 4)) (pk_rem (a := (i)) (d := 4) (by omega) (by decide) (by decide)) ?_
      refine lv_imul hx hb d_Mo_sha_231 ?_
      refine zz_i (v := nI (8 * ((i) % 4))) (pk_mul 8 ((i) % 4)) ?_
      refine lv_isub hx hb d_Mo_sha_232 ?_
      refine zz_i (v := nI (24 - (8 * ((i) % 4)))) (pk_sub (a := 24) (b := (8 * ((i) % 4))) (by omega)) ?_
      refine lv_iushr hx hb d_Mo_sha_233 rfl ?_
      refine lv_topi (fun x_46 _ => ?_)
      refine lv_i2b hx hb d_Mo_sha_234 rfl ?_
      refine lv_topi (fun x_47 _ => ?_)
      refine zz_bast hx hb hK hP hD hS 1 3 rfl rfl (vp_in_nI (by omega) (by omega)) hf_to d_Mo_sha_235 (fun f_48 hf_49 H locs hP hD hS => ?_)
      have hP : va_P (dC, dI) cl_all [(m_mem, .inl (e1, 281088, .inl f3)), (m_once, .inl (e2, 32, .inl f_48)), (m0, .inr (11, (.ref m_mem :: .int 0 :: .int 0 :: .int 0 :: .ref m_at :: .ref m_length :: .ref m_parent :: .ref m_height :: .ref m_time :: .ref m_target :: .ref m_work :: .ref m_arrival :: .ref m_sound :: .ref m_firstTx :: .ref m_txs :: .ref m_blockId :: .int 1 :: .int 0 :: .int 0 :: .int 0 :: .int 0 :: .ref m_heldLength :: .ref m_heldArrival :: .ref m_heldId :: .int 0 :: .ref m_ids :: .ref m_poolLength :: .ref m_poolFee :: .int 0 :: .int 0 :: .int 0 :: .ref m_inId :: .ref m_inIndex :: .ref m_keyAt :: .ref m_keyLength :: .int 0 :: .ref m_outValue :: .ref m_lockAt :: .ref m_lockLength :: .ref m_w :: .ref m_h :: .ref m_once :: .ref m_digest :: .ref m_signHash :: .ref m_buffer :: .ref m_merkle :: .ref m_stack :: .ref m_sizes :: .int 0 :: .ref m_branch :: .ref m_tipCoins :: .ref m_poolCoins :: .ref m_workCoins :: .ref m_path :: .ref m_order :: .ref m_spent :: []))), (m_w, .inl (e10, 64, .inl f_42)), (m_h, .inl (e11, 8, .inl f_43))] H := hP
      have hD : va_D A [(m_mem, .inl (e1, 281088, .inl f3)), (m_once, .inl (e2, 32, .inl f_48)), (m0, .inr (11, (.ref m_mem :: .int 0 :: .int 0 :: .int 0 :: .ref m_at :: .ref m_length :: .ref m_parent :: .ref m_height :: .ref m_time :: .ref m_target :: .ref m_work :: .ref m_arrival :: .ref m_sound :: .ref m_firstTx :: .ref m_txs :: .ref m_blockId :: .int 1 :: .int 0 :: .int 0 :: .int 0 :: .int 0 :: .ref m_heldLength :: .ref m_heldArrival :: .ref m_heldId :: .int 0 :: .ref m_ids :: .ref m_poolLength :: .ref m_poolFee :: .int 0 :: .int 0 :: .int 0 :: .ref m_inId :: .ref m_inIndex :: .ref m_keyAt :: .ref m_keyLength :: .int 0 :: .ref m_outValue :: .ref m_lockAt :: .ref m_lockLength :: .ref m_w :: .ref m_h :: .ref m_once :: .ref m_digest :: .ref m_signHash :: .ref m_buffer :: .ref m_merkle :: .ref m_stack :: .ref m_sizes :: .int 0 :: .ref m_branch :: .ref m_tipCoins :: .ref m_poolCoins :: .ref m_workCoins :: .ref m_path :: .ref m_order :: .ref m_spent :: []))), (m_w, .inl (e10, 64, .inl f_42)), (m_h, .inl (e11, 8, .inl f_43))] := hD
      refine lv_iinc (v := (nI (i + 1))) (lv' := [(7, .int (nI (i + 1))), (0, .ref m0), (1, .ref m_mem), (2, .int 135245), (3, .int 17), (4, .ref m_once), (5, .int 0), (6, .int 64)]) hx hb d_Mo_sha_236 hl (k := 7) rfl (nI_add (i) 1) (by decide) rfl (fun ls hl => ?_)
      refine lv_goto (tgt := 200) hx hb d_Mo_sha_239 (by decide) ?_
      exact ih_200 (i + 1) f_48 _ _ _ (by omega) (by omega) hf_49 hP hD hS (lv_sub hl [1, 2, 3, 4, 5, 6, 7, 0] rfl) kx_200
  refine lp200_44 _ (32 - 0) 0 f4 _ _ _ (by omega) (by omega) hf_f4 hP hD hS (lv_sub hl [1, 2, 3, 4, 5, 6, 7, 0] rfl) (fun f_50 H locs ls hf_51 hP hD hS hl => ?_)
  have hP9 := hP.sub (ws' := [(m0, .inr (11, (.ref m_mem :: .int 0 :: .int 0 :: .int 0 :: .ref m_at :: .ref m_length :: .ref m_parent :: .ref m_height :: .ref m_time :: .ref m_target :: .ref m_work :: .ref m_arrival :: .ref m_sound :: .ref m_firstTx :: .ref m_txs :: .ref m_blockId :: .int 1 :: .int 0 :: .int 0 :: .int 0 :: .int 0 :: .ref m_heldLength :: .ref m_heldArrival :: .ref m_heldId :: .int 0 :: .ref m_ids :: .ref m_poolLength :: .ref m_poolFee :: .int 0 :: .int 0 :: .int 0 :: .ref m_inId :: .ref m_inIndex :: .ref m_keyAt :: .ref m_keyLength :: .int 0 :: .ref m_outValue :: .ref m_lockAt :: .ref m_lockLength :: .ref m_w :: .ref m_h :: .ref m_once :: .ref m_digest :: .ref m_signHash :: .ref m_buffer :: .ref m_merkle :: .ref m_stack :: .ref m_sizes :: .int 0 :: .ref m_branch :: .ref m_tipCoins :: .ref m_poolCoins :: .ref m_workCoins :: .ref m_path :: .ref m_order :: .ref m_spent :: []))), (m_w, .inl (e10, 64, .inl f_42)), (m_h, .inl (e11, 8, .inl f_43)), (m_mem, .inl (e1, 281088, .inl f3)), (m_once, .inl (e2, 32, .inl f_50))]) [2, 3, 4, 0, 1] rfl
  have hD9 := hD.sub (ws' := [(m0, .inr (11, (.ref m_mem :: .int 0 :: .int 0 :: .int 0 :: .ref m_at :: .ref m_length :: .ref m_parent :: .ref m_height :: .ref m_time :: .ref m_target :: .ref m_work :: .ref m_arrival :: .ref m_sound :: .ref m_firstTx :: .ref m_txs :: .ref m_blockId :: .int 1 :: .int 0 :: .int 0 :: .int 0 :: .int 0 :: .ref m_heldLength :: .ref m_heldArrival :: .ref m_heldId :: .int 0 :: .ref m_ids :: .ref m_poolLength :: .ref m_poolFee :: .int 0 :: .int 0 :: .int 0 :: .ref m_inId :: .ref m_inIndex :: .ref m_keyAt :: .ref m_keyLength :: .int 0 :: .ref m_outValue :: .ref m_lockAt :: .ref m_lockLength :: .ref m_w :: .ref m_h :: .ref m_once :: .ref m_digest :: .ref m_signHash :: .ref m_buffer :: .ref m_merkle :: .ref m_stack :: .ref m_sizes :: .int 0 :: .ref m_branch :: .ref m_tipCoins :: .ref m_poolCoins :: .ref m_workCoins :: .ref m_path :: .ref m_order :: .ref m_spent :: []))), (m_w, .inl (e10, 64, .inl f_42)), (m_h, .inl (e11, 8, .inl f_43)), (m_mem, .inl (e1, 281088, .inl f3)), (m_once, .inl (e2, 32, .inl f_50))]) [2, 3, 4, 0, 1] (by decide) rfl
  have hK9 := hK.sub (tys' := []) [] rfl
  exact W.vret hx hb hr (fun t9 ht9 hW9 => ⟨⟨(), rfl, trivial, ⟨f_42, f_43, f_50, hf_51, by rw [ht9]; exact hP9, va_K.moved hW9.alike hK9, hD9⟩⟩, hS.F ht9⟩) hS.2.2 d_Mo_sha_242
set_option maxHeartbeats 4000000 in
set_option maxRecDepth 100000 in
theorem c_Mo_sha32 (l : Launch) (dC : Nat → ClassId) (dI : Nat → Nat → Nat) (z : zT) (sz : Nat) (m0 m_mem m_at m_length m_parent m_height m_time m_target m_work m_arrival m_sound m_firstTx m_txs m_blockId m_heldLength m_heldArrival m_heldId m_ids m_poolLength m_poolFee m_inId m_inIndex m_keyAt m_keyLength m_outValue m_lockAt m_lockLength m_w m_h m_once m_digest m_signHash m_buffer m_merkle m_stack m_sizes m_branch m_tipCoins m_poolCoins m_workCoins m_path m_order m_spent : Nat) (e10 e11 e1 e2 : ClassId) (f1 f2 f3 f4 : Nat → Int32) (hf_f4 : sb_Fit f4) : Met l y_Mo_sha w_Mo_sha ({ frames := 1, cells := 0, slots := 0, locals := 31 }) (va_Pc [.ref m0, .ref m_once, .int 0, .int 32, .ref m_merkle, .int 0] (fun U => U.heap.size = sz ∧ va_P (dC, dI) cl_all [(m0, .inr (11, (.ref m_mem :: .int 0 :: .int 0 :: .int 0 :: .ref m_at :: .ref m_length :: .ref m_parent :: .ref m_height :: .ref m_time :: .ref m_target :: .ref m_work :: .ref m_arrival :: .ref m_sound :: .ref m_firstTx :: .ref m_txs :: .ref m_blockId :: .int 1 :: .int 0 :: .int 0 :: .int 0 :: .int 0 :: .ref m_heldLength :: .ref m_heldArrival :: .ref m_heldId :: .int 0 :: .ref m_ids :: .ref m_poolLength :: .ref m_poolFee :: .int 0 :: .int 0 :: .int 0 :: .ref m_inId :: .ref m_inIndex :: .ref m_keyAt :: .ref m_keyLength :: .int 0 :: .ref m_outValue :: .ref m_lockAt :: .ref m_lockLength :: .ref m_w :: .ref m_h :: .ref m_once :: .ref m_digest :: .ref m_signHash :: .ref m_buffer :: .ref m_merkle :: .ref m_stack :: .ref m_sizes :: .int 0 :: .ref m_branch :: .ref m_tipCoins :: .ref m_poolCoins :: .ref m_workCoins :: .ref m_path :: .ref m_order :: .ref m_spent :: []))), (m_w, .inl (e10, 64, .inl f1)), (m_h, .inl (e11, 8, .inl f2)), (m_once, .inl (e1, 32, .inl f3)), (m_merkle, .inl (e2, 1088, .inl f4))] U.heap ∧ va_K (dC, dI) cl_all [(e10, .int), (e11, .int), (e1, .byte), (e2, .byte)] U ∧ va_D (fun _ => True) [(m0, .inr (11, (.ref m_mem :: .int 0 :: .int 0 :: .int 0 :: .ref m_at :: .ref m_length :: .ref m_parent :: .ref m_height :: .ref m_time :: .ref m_target :: .ref m_work :: .ref m_arrival :: .ref m_sound :: .ref m_firstTx :: .ref m_txs :: .ref m_blockId :: .int 1 :: .int 0 :: .int 0 :: .int 0 :: .int 0 :: .ref m_heldLength :: .ref m_heldArrival :: .ref m_heldId :: .int 0 :: .ref m_ids :: .ref m_poolLength :: .ref m_poolFee :: .int 0 :: .int 0 :: .int 0 :: .ref m_inId :: .ref m_inIndex :: .ref m_keyAt :: .ref m_keyLength :: .int 0 :: .ref m_outValue :: .ref m_lockAt :: .ref m_lockLength :: .ref m_w :: .ref m_h :: .ref m_once :: .ref m_digest :: .ref m_signHash :: .ref m_buffer :: .ref m_merkle :: .ref m_stack :: .ref m_sizes :: .int 0 :: .ref m_branch :: .ref m_tipCoins :: .ref m_poolCoins :: .ref m_workCoins :: .ref m_path :: .ref m_order :: .ref m_spent :: []))), (m_w, .inl (e10, 64, .inl f1)), (m_h, .inl (e11, 8, .inl f2)), (m_once, .inl (e1, 32, .inl f3)), (m_merkle, .inl (e2, 1088, .inl f4))] ∧ zz z (va_A [(m0, .inr (11, (.ref m_mem :: .int 0 :: .int 0 :: .int 0 :: .ref m_at :: .ref m_length :: .ref m_parent :: .ref m_height :: .ref m_time :: .ref m_target :: .ref m_work :: .ref m_arrival :: .ref m_sound :: .ref m_firstTx :: .ref m_txs :: .ref m_blockId :: .int 1 :: .int 0 :: .int 0 :: .int 0 :: .int 0 :: .ref m_heldLength :: .ref m_heldArrival :: .ref m_heldId :: .int 0 :: .ref m_ids :: .ref m_poolLength :: .ref m_poolFee :: .int 0 :: .int 0 :: .int 0 :: .ref m_inId :: .ref m_inIndex :: .ref m_keyAt :: .ref m_keyLength :: .int 0 :: .ref m_outValue :: .ref m_lockAt :: .ref m_lockLength :: .ref m_w :: .ref m_h :: .ref m_once :: .ref m_digest :: .ref m_signHash :: .ref m_buffer :: .ref m_merkle :: .ref m_stack :: .ref m_sizes :: .int 0 :: .ref m_branch :: .ref m_tipCoins :: .ref m_poolCoins :: .ref m_workCoins :: .ref m_path :: .ref m_order :: .ref m_spent :: []))), (m_w, .inl (e10, 64, .inl f1)), (m_h, .inl (e11, 8, .inl f2)), (m_once, .inl (e1, 32, .inl f3)), (m_merkle, .inl (e2, 1088, .inl f4))] sz) U U.heap)) (va_Qv (fun _ : Unit => True) (fun _ t => ∃ (g1 : Nat → Int32) (g2 : Nat → Int32) (g4 : Nat → Int32), sb_Fit g4 ∧ va_P (dC, dI) cl_all [(m0, .inr (11, (.ref m_mem :: .int 0 :: .int 0 :: .int 0 :: .ref m_at :: .ref m_length :: .ref m_parent :: .ref m_height :: .ref m_time :: .ref m_target :: .ref m_work :: .ref m_arrival :: .ref m_sound :: .ref m_firstTx :: .ref m_txs :: .ref m_blockId :: .int 1 :: .int 0 :: .int 0 :: .int 0 :: .int 0 :: .ref m_heldLength :: .ref m_heldArrival :: .ref m_heldId :: .int 0 :: .ref m_ids :: .ref m_poolLength :: .ref m_poolFee :: .int 0 :: .int 0 :: .int 0 :: .ref m_inId :: .ref m_inIndex :: .ref m_keyAt :: .ref m_keyLength :: .int 0 :: .ref m_outValue :: .ref m_lockAt :: .ref m_lockLength :: .ref m_w :: .ref m_h :: .ref m_once :: .ref m_digest :: .ref m_signHash :: .ref m_buffer :: .ref m_merkle :: .ref m_stack :: .ref m_sizes :: .int 0 :: .ref m_branch :: .ref m_tipCoins :: .ref m_poolCoins :: .ref m_workCoins :: .ref m_path :: .ref m_order :: .ref m_spent :: []))), (m_w, .inl (e10, 64, .inl g1)), (m_h, .inl (e11, 8, .inl g2)), (m_once, .inl (e1, 32, .inl f3)), (m_merkle, .inl (e2, 1088, .inl g4))] t.heap ∧ va_K (dC, dI) cl_all [] t ∧ va_D (va_A [(m0, .inr (11, (.ref m_mem :: .int 0 :: .int 0 :: .int 0 :: .ref m_at :: .ref m_length :: .ref m_parent :: .ref m_height :: .ref m_time :: .ref m_target :: .ref m_work :: .ref m_arrival :: .ref m_sound :: .ref m_firstTx :: .ref m_txs :: .ref m_blockId :: .int 1 :: .int 0 :: .int 0 :: .int 0 :: .int 0 :: .ref m_heldLength :: .ref m_heldArrival :: .ref m_heldId :: .int 0 :: .ref m_ids :: .ref m_poolLength :: .ref m_poolFee :: .int 0 :: .int 0 :: .int 0 :: .ref m_inId :: .ref m_inIndex :: .ref m_keyAt :: .ref m_keyLength :: .int 0 :: .ref m_outValue :: .ref m_lockAt :: .ref m_lockLength :: .ref m_w :: .ref m_h :: .ref m_once :: .ref m_digest :: .ref m_signHash :: .ref m_buffer :: .ref m_merkle :: .ref m_stack :: .ref m_sizes :: .int 0 :: .ref m_branch :: .ref m_tipCoins :: .ref m_poolCoins :: .ref m_workCoins :: .ref m_path :: .ref m_order :: .ref m_spent :: []))), (m_w, .inl (e10, 64, .inl f1)), (m_h, .inl (e11, 8, .inl f2)), (m_once, .inl (e1, 32, .inl f3)), (m_merkle, .inl (e2, 1088, .inl f4))] sz) [(m0, .inr (11, (.ref m_mem :: .int 0 :: .int 0 :: .int 0 :: .ref m_at :: .ref m_length :: .ref m_parent :: .ref m_height :: .ref m_time :: .ref m_target :: .ref m_work :: .ref m_arrival :: .ref m_sound :: .ref m_firstTx :: .ref m_txs :: .ref m_blockId :: .int 1 :: .int 0 :: .int 0 :: .int 0 :: .int 0 :: .ref m_heldLength :: .ref m_heldArrival :: .ref m_heldId :: .int 0 :: .ref m_ids :: .ref m_poolLength :: .ref m_poolFee :: .int 0 :: .int 0 :: .int 0 :: .ref m_inId :: .ref m_inIndex :: .ref m_keyAt :: .ref m_keyLength :: .int 0 :: .ref m_outValue :: .ref m_lockAt :: .ref m_lockLength :: .ref m_w :: .ref m_h :: .ref m_once :: .ref m_digest :: .ref m_signHash :: .ref m_buffer :: .ref m_merkle :: .ref m_stack :: .ref m_sizes :: .int 0 :: .ref m_branch :: .ref m_tipCoins :: .ref m_poolCoins :: .ref m_workCoins :: .ref m_path :: .ref m_order :: .ref m_spent :: []))), (m_w, .inl (e10, 64, .inl g1)), (m_h, .inl (e11, 8, .inl g2)), (m_once, .inl (e1, 32, .inl f3)), (m_merkle, .inl (e2, 1088, .inl g4))]) (va_A [(m0, .inr (11, (.ref m_mem :: .int 0 :: .int 0 :: .int 0 :: .ref m_at :: .ref m_length :: .ref m_parent :: .ref m_height :: .ref m_time :: .ref m_target :: .ref m_work :: .ref m_arrival :: .ref m_sound :: .ref m_firstTx :: .ref m_txs :: .ref m_blockId :: .int 1 :: .int 0 :: .int 0 :: .int 0 :: .int 0 :: .ref m_heldLength :: .ref m_heldArrival :: .ref m_heldId :: .int 0 :: .ref m_ids :: .ref m_poolLength :: .ref m_poolFee :: .int 0 :: .int 0 :: .int 0 :: .ref m_inId :: .ref m_inIndex :: .ref m_keyAt :: .ref m_keyLength :: .int 0 :: .ref m_outValue :: .ref m_lockAt :: .ref m_lockLength :: .ref m_w :: .ref m_h :: .ref m_once :: .ref m_digest :: .ref m_signHash :: .ref m_buffer :: .ref m_merkle :: .ref m_stack :: .ref m_sizes :: .int 0 :: .ref m_branch :: .ref m_tipCoins :: .ref m_poolCoins :: .ref m_workCoins :: .ref m_path :: .ref m_order :: .ref m_spent :: []))), (m_w, .inl (e10, 64, .inl f1)), (m_h, .inl (e11, 8, .inl f2)), (m_once, .inl (e1, 32, .inl f3)), (m_merkle, .inl (e2, 1088, .inl f4))] sz)) 0 0 (va_A [(m0, .inr (11, (.ref m_mem :: .int 0 :: .int 0 :: .int 0 :: .ref m_at :: .ref m_length :: .ref m_parent :: .ref m_height :: .ref m_time :: .ref m_target :: .ref m_work :: .ref m_arrival :: .ref m_sound :: .ref m_firstTx :: .ref m_txs :: .ref m_blockId :: .int 1 :: .int 0 :: .int 0 :: .int 0 :: .int 0 :: .ref m_heldLength :: .ref m_heldArrival :: .ref m_heldId :: .int 0 :: .ref m_ids :: .ref m_poolLength :: .ref m_poolFee :: .int 0 :: .int 0 :: .int 0 :: .ref m_inId :: .ref m_inIndex :: .ref m_keyAt :: .ref m_keyLength :: .int 0 :: .ref m_outValue :: .ref m_lockAt :: .ref m_lockLength :: .ref m_w :: .ref m_h :: .ref m_once :: .ref m_digest :: .ref m_signHash :: .ref m_buffer :: .ref m_merkle :: .ref m_stack :: .ref m_sizes :: .int 0 :: .ref m_branch :: .ref m_tipCoins :: .ref m_poolCoins :: .ref m_workCoins :: .ref m_path :: .ref m_order :: .ref m_spent :: []))), (m_w, .inl (e10, 64, .inl f1)), (m_h, .inl (e11, 8, .inl f2)), (m_once, .inl (e1, 32, .inl f3)), (m_merkle, .inl (e2, 1088, .inl f4))] sz) := by
  refine Met.ofW (cc := b_Mo_sha) (maxL := 13) (ret := none) (by decide) rfl ?_
  intro p e s m args below meth c s₁ B hml hv
  obtain ⟨rfl, hsz, hP, hK, hD0, hZ⟩ := hv
  have hx := B.exec
  have hb := B.bytes
  have hr := B.returns
  have hT : ∀ w ∈ lw_all, w.before _ s = true := fun w h => atoms_spec (ws := w_Mo_sha) B.pre w (List.mem_cons_of_mem _ h)
  have hown : s.vm.findClass R_Mo = some m.cls := findClass_of_methodNamed B.named
  have hlocks := B.notSynchronized
  subst hsz
  have hD := hD0.self (sz := s.heap.size)
  generalize hAe : va_A [(m0, .inr (11, (.ref m_mem :: .int 0 :: .int 0 :: .int 0 :: .ref m_at :: .ref m_length :: .ref m_parent :: .ref m_height :: .ref m_time :: .ref m_target :: .ref m_work :: .ref m_arrival :: .ref m_sound :: .ref m_firstTx :: .ref m_txs :: .ref m_blockId :: .int 1 :: .int 0 :: .int 0 :: .int 0 :: .int 0 :: .ref m_heldLength :: .ref m_heldArrival :: .ref m_heldId :: .int 0 :: .ref m_ids :: .ref m_poolLength :: .ref m_poolFee :: .int 0 :: .int 0 :: .int 0 :: .ref m_inId :: .ref m_inIndex :: .ref m_keyAt :: .ref m_keyLength :: .int 0 :: .ref m_outValue :: .ref m_lockAt :: .ref m_lockLength :: .ref m_w :: .ref m_h :: .ref m_once :: .ref m_digest :: .ref m_signHash :: .ref m_buffer :: .ref m_merkle :: .ref m_stack :: .ref m_sizes :: .int 0 :: .ref m_branch :: .ref m_tipCoins :: .ref m_poolCoins :: .ref m_workCoins :: .ref m_path :: .ref m_order :: .ref m_spent :: []))), (m_w, .inl (e10, 64, .inl f1)), (m_h, .inl (e11, 8, .inl f2)), (m_once, .inl (e1, 32, .inl f3)), (m_merkle, .inl (e2, 1088, .inl f4))] s.heap.size = A at hD hZ ⊢
  have hA : ∀ q : Nat, s.heap.size ≤ q → A q := fun q h => by rw [← hAe]; exact Or.inr h
  have hS : va_S A s.heap s.heap [] := va_S.rf
  have hl := lv_entry ([.ref m0, .ref m_once, .int 0, .int 32, .ref m_merkle, .int 0]) (n := 13) (Nat.le_of_ble_eq_true rfl)
  rw [lg_entry_eq]
  generalize (lg_sl ([.ref m0, .ref m_once, .int 0, .int 32, .ref m_merkle, .int 0]) ++ List.replicate (13 - (lg_sl ([.ref m0, .ref m_once, .int 0, .int 32, .ref m_merkle, .int 0])).length) Slot.unset).toArray = ls at hl ⊢
  have hl : lv_has ls 13 [(0, .ref m0), (1, .ref m_once), (2, .int 0), (3, .int 32), (4, .ref m_merkle), (5, .int 0)] := hl
  refine lv_iconst (v := 0) hx hb d_Mo_sha_0 (by decide) ?_
  refine lv_istore (lv' := [(6, .int 0), (0, .ref m0), (1, .ref m_once), (2, .int 0), (3, .int 32), (4, .ref m_merkle), (5, .int 0)]) hx hb d_Mo_sha_1 hl (by decide) rfl (fun ls hl => ?_)
  have lp3_1 : ∀ (Q : State → Prop) (n i : Nat) (w : Nat → Int32) (H : Heap) (locs : List Loc) (ls : Array Slot), i + n = 8 → 0 ≤ i → va_P (dC, dI) cl_all [(m0, .inr (11, (.ref m_mem :: .int 0 :: .int 0 :: .int 0 :: .ref m_at :: .ref m_length :: .ref m_parent :: .ref m_height :: .ref m_time :: .ref m_target :: .ref m_work :: .ref m_arrival :: .ref m_sound :: .ref m_firstTx :: .ref m_txs :: .ref m_blockId :: .int 1 :: .int 0 :: .int 0 :: .int 0 :: .int 0 :: .ref m_heldLength :: .ref m_heldArrival :: .ref m_heldId :: .int 0 :: .ref m_ids :: .ref m_poolLength :: .ref m_poolFee :: .int 0 :: .int 0 :: .int 0 :: .ref m_inId :: .ref m_inIndex :: .ref m_keyAt :: .ref m_keyLength :: .int 0 :: .ref m_outValue :: .ref m_lockAt :: .ref m_lockLength :: .ref m_w :: .ref m_h :: .ref m_once :: .ref m_digest :: .ref m_signHash :: .ref m_buffer :: .ref m_merkle :: .ref m_stack :: .ref m_sizes :: .int 0 :: .ref m_branch :: .ref m_tipCoins :: .ref m_poolCoins :: .ref m_workCoins :: .ref m_path :: .ref m_order :: .ref m_spent :: []))), (m_w, .inl (e10, 64, .inl f1)), (m_h, .inl (e11, 8, .inl w)), (m_once, .inl (e1, 32, .inl f3)), (m_merkle, .inl (e2, 1088, .inl f4))] H → va_D A [(m0, .inr (11, (.ref m_mem :: .int 0 :: .int 0 :: .int 0 :: .ref m_at :: .ref m_length :: .ref m_parent :: .ref m_height :: .ref m_time :: .ref m_target :: .ref m_work :: .ref m_arrival :: .ref m_sound :: .ref m_firstTx :: .ref m_txs :: .ref m_blockId :: .int 1 :: .int 0 :: .int 0 :: .int 0 :: .int 0 :: .ref m_heldLength :: .ref m_heldArrival :: .ref m_heldId :: .int 0 :: .ref m_ids :: .ref m_poolLength :: .ref m_poolFee :: .int 0 :: .int 0 :: .int 0 :: .ref m_inId :: .ref m_inIndex :: .ref m_keyAt :: .ref m_keyLength :: .int 0 :: .ref m_outValue :: .ref m_lockAt :: .ref m_lockLength :: .ref m_w :: .ref m_h :: .ref m_once :: .ref m_digest :: .ref m_signHash :: .ref m_buffer :: .ref m_merkle :: .ref m_stack :: .ref m_sizes :: .int 0 :: .ref m_branch :: .ref m_tipCoins :: .ref m_poolCoins :: .ref m_workCoins :: .ref m_path :: .ref m_order :: .ref m_spent :: []))), (m_w, .inl (e10, 64, .inl f1)), (m_h, .inl (e11, 8, .inl w)), (m_once, .inl (e1, 32, .inl f3)), (m_merkle, .inl (e2, 1088, .inl f4))] → va_S A s.heap H locs → lv_has ls 13 [(0, .ref m0), (1, .ref m_once), (2, .int 0), (3, .int 32), (4, .ref m_merkle), (5, .int 0), (6, .int (nI i))] → (∀ (w : Nat → Int32) (H : Heap) (locs : List Loc) (ls : Array Slot), va_P (dC, dI) cl_all [(m0, .inr (11, (.ref m_mem :: .int 0 :: .int 0 :: .int 0 :: .ref m_at :: .ref m_length :: .ref m_parent :: .ref m_height :: .ref m_time :: .ref m_target :: .ref m_work :: .ref m_arrival :: .ref m_sound :: .ref m_firstTx :: .ref m_txs :: .ref m_blockId :: .int 1 :: .int 0 :: .int 0 :: .int 0 :: .int 0 :: .ref m_heldLength :: .ref m_heldArrival :: .ref m_heldId :: .int 0 :: .ref m_ids :: .ref m_poolLength :: .ref m_poolFee :: .int 0 :: .int 0 :: .int 0 :: .ref m_inId :: .ref m_inIndex :: .ref m_keyAt :: .ref m_keyLength :: .int 0 :: .ref m_outValue :: .ref m_lockAt :: .ref m_lockLength :: .ref m_w :: .ref m_h :: .ref m_once :: .ref m_digest :: .ref m_signHash :: .ref m_buffer :: .ref m_merkle :: .ref m_stack :: .ref m_sizes :: .int 0 :: .ref m_branch :: .ref m_tipCoins :: .ref m_poolCoins :: .ref m_workCoins :: .ref m_path :: .ref m_order :: .ref m_spent :: []))), (m_w, .inl (e10, 64, .inl f1)), (m_h, .inl (e11, 8, .inl w)), (m_once, .inl (e1, 32, .inl f3)), (m_merkle, .inl (e2, 1088, .inl f4))] H → va_D A [(m0, .inr (11, (.ref m_mem :: .int 0 :: .int 0 :: .int 0 :: .ref m_at :: .ref m_length :: .ref m_parent :: .ref m_height :: .ref m_time :: .ref m_target :: .ref m_work :: .ref m_arrival :: .ref m_sound :: .ref m_firstTx :: .ref m_txs :: .ref m_blockId :: .int 1 :: .int 0 :: .int 0 :: .int 0 :: .int 0 :: .ref m_heldLength :: .ref m_heldArrival :: .ref m_heldId :: .int 0 :: .ref m_ids :: .ref m_poolLength :: .ref m_poolFee :: .int 0 :: .int 0 :: .int 0 :: .ref m_inId :: .ref m_inIndex :: .ref m_keyAt :: .ref m_keyLength :: .int 0 :: .ref m_outValue :: .ref m_lockAt :: .ref m_lockLength :: .ref m_w :: .ref m_h :: .ref m_once :: .ref m_digest :: .ref m_signHash :: .ref m_buffer :: .ref m_merkle :: .ref m_stack :: .ref m_sizes :: .int 0 :: .ref m_branch :: .ref m_tipCoins :: .ref m_poolCoins :: .ref m_workCoins :: .ref m_path :: .ref m_order :: .ref m_spent :: []))), (m_w, .inl (e10, 64, .inl f1)), (m_h, .inl (e11, 8, .inl w)), (m_once, .inl (e1, 32, .inl f3)), (m_merkle, .inl (e2, 1088, .inl f4))] → va_S A s.heap H locs → lv_has ls 13 [(0, .ref m0), (1, .ref m_once), (2, .int 0), (3, .int 32), (4, .ref m_merkle), (5, .int 0), (6, .int (nI 8))] → W p l e (headSpec w_Mo_sha ({ frames := 1, cells := 0, slots := 0, locals := 31 })).room s m ([.ref m0, .ref m_once, .int 0, .int 32, .ref m_merkle, .int 0] : List Value).toArray below meth c H locs 0 0 Q (F0 m 29 ls [])) → W p l e (headSpec w_Mo_sha ({ frames := 1, cells := 0, slots := 0, locals := 31 })).room s m ([.ref m0, .ref m_once, .int 0, .int 32, .ref m_merkle, .int 0] : List Value).toArray below meth c H locs 0 0 Q (F0 m 3 ls []) := by
    intro Q n
    induction n with
    | zero =>
      intro i w H locs ls hi_3 ha_3  hP hD hS hl kx_3
      have hi_3 : i = 8 := by omega
      subst hi_3
      refine lv_iload hx hb d_Mo_sha_3 (lv_at hl 6 rfl) ?_
      refine lv_bipush (v := 8) hx hb d_Mo_sha_5 (by decide) ?_
      refine lv_icmp_ge (tgt := 29) hx hb d_Mo_sha_7 (by decide) (fun _ => ?_) (fun h => absurd ((nI_leI (a := 8) (b := (8)) (by omega) (by omega)).mpr (by omega)) h)
      exact kx_3 w _ _ _  hP hD hS (lv_sub hl [0, 1, 2, 3, 4, 5, 6] rfl)
    | succ n ih_3 =>
      intro i w H locs ls hi_3 ha_3  hP hD hS hl kx_3
      refine lv_iload hx hb d_Mo_sha_3 (lv_at hl 6 rfl) ?_
      refine lv_bipush (v := 8) hx hb d_Mo_sha_5 (by decide) ?_
      refine lv_icmp_ge (tgt := 29) hx hb d_Mo_sha_7 (by decide) (fun h => absurd h (fun h9 => absurd ((nI_leI (a := 8) (b := (i)) (by omega) (by omega)).mp h9) (by omega))) (fun _ => ?_)
      refine lv_aload_n hx hb d_Mo_sha_10 rfl (lv_at hl 0 rfl) ?_
      refine va_get (D := (dC, dI)) (ci := 11) (v := .ref m_h) (C := R_Mo) (T := F_Mo) (N := 56) hx hb hT i_Mo hown hK hP 0 rfl rfl 40 (by decide) (hT _ k_319) (fun _ h9 => h9) rfl d_Mo_sha_11 ?_
      refine lv_iload hx hb d_Mo_sha_14 (lv_at hl 6 rfl) ?_
      refine va_gets hx hb hZ.2.2.2.2.2.1 hS hown (hT _ k_381) (fun _ h9 => h9) d_Mo_sha_16 ?_
      refine lv_iload hx hb d_Mo_sha_19 (lv_at hl 6 rfl) ?_
      refine va_ti hx hb hZ.2.2.2.2.2.2.1 hS (vp_in_nI (by omega) (by omega)) rfl d_Mo_sha_21 ?_
      refine lv_topi (fun x_2 _ => ?_)
      refine zz_iast hx hb hK hP hD hS 2 1 rfl rfl (vp_in_nI (by omega) (by omega)) d_Mo_sha_22 (fun f_3 H locs hP hD hS => ?_)
      have hP : va_P (dC, dI) cl_all [(m0, .inr (11, (.ref m_mem :: .int 0 :: .int 0 :: .int 0 :: .ref m_at :: .ref m_length :: .ref m_parent :: .ref m_height :: .ref m_time :: .ref m_target :: .ref m_work :: .ref m_arrival :: .ref m_sound :: .ref m_firstTx :: .ref m_txs :: .ref m_blockId :: .int 1 :: .int 0 :: .int 0 :: .int 0 :: .int 0 :: .ref m_heldLength :: .ref m_heldArrival :: .ref m_heldId :: .int 0 :: .ref m_ids :: .ref m_poolLength :: .ref m_poolFee :: .int 0 :: .int 0 :: .int 0 :: .ref m_inId :: .ref m_inIndex :: .ref m_keyAt :: .ref m_keyLength :: .int 0 :: .ref m_outValue :: .ref m_lockAt :: .ref m_lockLength :: .ref m_w :: .ref m_h :: .ref m_once :: .ref m_digest :: .ref m_signHash :: .ref m_buffer :: .ref m_merkle :: .ref m_stack :: .ref m_sizes :: .int 0 :: .ref m_branch :: .ref m_tipCoins :: .ref m_poolCoins :: .ref m_workCoins :: .ref m_path :: .ref m_order :: .ref m_spent :: []))), (m_w, .inl (e10, 64, .inl f1)), (m_h, .inl (e11, 8, .inl f_3)), (m_once, .inl (e1, 32, .inl f3)), (m_merkle, .inl (e2, 1088, .inl f4))] H := hP
      have hD : va_D A [(m0, .inr (11, (.ref m_mem :: .int 0 :: .int 0 :: .int 0 :: .ref m_at :: .ref m_length :: .ref m_parent :: .ref m_height :: .ref m_time :: .ref m_target :: .ref m_work :: .ref m_arrival :: .ref m_sound :: .ref m_firstTx :: .ref m_txs :: .ref m_blockId :: .int 1 :: .int 0 :: .int 0 :: .int 0 :: .int 0 :: .ref m_heldLength :: .ref m_heldArrival :: .ref m_heldId :: .int 0 :: .ref m_ids :: .ref m_poolLength :: .ref m_poolFee :: .int 0 :: .int 0 :: .int 0 :: .ref m_inId :: .ref m_inIndex :: .ref m_keyAt :: .ref m_keyLength :: .int 0 :: .ref m_outValue :: .ref m_lockAt :: .ref m_lockLength :: .ref m_w :: .ref m_h :: .ref m_once :: .ref m_digest :: .ref m_signHash :: .ref m_buffer :: .ref m_merkle :: .ref m_stack :: .ref m_sizes :: .int 0 :: .ref m_branch :: .ref m_tipCoins :: .ref m_poolCoins :: .ref m_workCoins :: .ref m_path :: .ref m_order :: .ref m_spent :: []))), (m_w, .inl (e10, 64, .inl f1)), (m_h, .inl (e11, 8, .inl f_3)), (m_once, .inl (e1, 32, .inl f3)), (m_merkle, .inl (e2, 1088, .inl f4))] := hD
      refine lv_iinc (v := (nI (i + 1))) (lv' := [(6, .int (nI (i + 1))), (0, .ref m0), (1, .ref m_once), (2, .int 0), (3, .int 32), (4, .ref m_merkle), (5, .int 0)]) hx hb d_Mo_sha_23 hl (k := 6) rfl (nI_add (i) 1) (by decide) rfl (fun ls hl => ?_)
      refine lv_goto (tgt := 3) hx hb d_Mo_sha_26 (by decide) ?_
      exact ih_3 (i + 1) f_3 _ _ _ (by omega) (by omega)  hP hD hS (lv_sub hl [1, 2, 3, 4, 5, 6, 0] rfl) kx_3
  refine lp3_1 _ (8 - 0) 0 f2 _ _ _ (by omega) (by omega)  hP hD hS (lv_sub hl [1, 2, 3, 4, 5, 6, 0] rfl) (fun f_4 H locs ls  hP hD hS hl => ?_)
  refine lv_iload_n hx hb d_Mo_sha_29 rfl (lv_at hl 3 rfl) ?_
  refine lv_bipush (v := 9) hx hb d_Mo_sha_30 (by decide) ?_
  refine lv_iadd hx hb d_Mo_sha_32 ?_
  refine zz_i (v := 41) (by decide) ?_
  refine lv_bipush (v := 63) hx hb d_Mo_sha_33 (by decide) ?_
  refine lv_iadd hx hb d_Mo_sha_35 ?_
  refine zz_i (v := 104) (by decide) ?_
  refine lv_bipush (v := 64) hx hb d_Mo_sha_36 (by decide) ?_
  refine lv_idiv hx hb d_Mo_sha_38 (by decide) ?_
  refine zz_i (v := 1) (by decide) ?_
  refine lv_bipush (v := 64) hx hb d_Mo_sha_39 (by decide) ?_
  refine lv_imul hx hb d_Mo_sha_41 ?_
  refine zz_i (v := 64) (by decide) ?_
  refine lv_istore (lv' := [(6, .int 64), (0, .ref m0), (1, .ref m_once), (2, .int 0), (3, .int 32), (4, .ref m_merkle), (5, .int 0)]) hx hb d_Mo_sha_42 hl (by decide) rfl (fun ls hl => ?_)
  refine lv_iconst (v := 0) hx hb d_Mo_sha_44 (by decide) ?_
  refine lv_istore (lv' := [(7, .int 0), (6, .int 64), (0, .ref m0), (1, .ref m_once), (2, .int 0), (3, .int 32), (4, .ref m_merkle), (5, .int 0)]) hx hb d_Mo_sha_45 hl (by decide) rfl (fun ls hl => ?_)
  refine lv_iload hx hb d_Mo_sha_47 (lv_at hl 0 rfl) ?_
  refine lv_iload hx hb d_Mo_sha_49 (lv_at hl 1 rfl) ?_
  refine lv_icmp_ge (tgt := 197) hx hb d_Mo_sha_51 (by decide) (fun h => absurd h (by decide)) (fun _ => ?_)
  refine lv_iconst (v := 0) hx hb d_Mo_sha_54 (by decide) ?_
  refine lv_istore (lv' := [(8, .int 0), (7, .int 0), (6, .int 64), (0, .ref m0), (1, .ref m_once), (2, .int 0), (3, .int 32), (4, .ref m_merkle), (5, .int 0)]) hx hb d_Mo_sha_55 hl (by decide) rfl (fun ls hl => ?_)
  have lp57_5 : ∀ (Q : State → Prop) (n i : Nat) (w : Nat → Int32) (H : Heap) (locs : List Loc) (ls : Array Slot), i + n = 16 → 0 ≤ i → va_P (dC, dI) cl_all [(m0, .inr (11, (.ref m_mem :: .int 0 :: .int 0 :: .int 0 :: .ref m_at :: .ref m_length :: .ref m_parent :: .ref m_height :: .ref m_time :: .ref m_target :: .ref m_work :: .ref m_arrival :: .ref m_sound :: .ref m_firstTx :: .ref m_txs :: .ref m_blockId :: .int 1 :: .int 0 :: .int 0 :: .int 0 :: .int 0 :: .ref m_heldLength :: .ref m_heldArrival :: .ref m_heldId :: .int 0 :: .ref m_ids :: .ref m_poolLength :: .ref m_poolFee :: .int 0 :: .int 0 :: .int 0 :: .ref m_inId :: .ref m_inIndex :: .ref m_keyAt :: .ref m_keyLength :: .int 0 :: .ref m_outValue :: .ref m_lockAt :: .ref m_lockLength :: .ref m_w :: .ref m_h :: .ref m_once :: .ref m_digest :: .ref m_signHash :: .ref m_buffer :: .ref m_merkle :: .ref m_stack :: .ref m_sizes :: .int 0 :: .ref m_branch :: .ref m_tipCoins :: .ref m_poolCoins :: .ref m_workCoins :: .ref m_path :: .ref m_order :: .ref m_spent :: []))), (m_w, .inl (e10, 64, .inl w)), (m_h, .inl (e11, 8, .inl f_4)), (m_once, .inl (e1, 32, .inl f3)), (m_merkle, .inl (e2, 1088, .inl f4))] H → va_D A [(m0, .inr (11, (.ref m_mem :: .int 0 :: .int 0 :: .int 0 :: .ref m_at :: .ref m_length :: .ref m_parent :: .ref m_height :: .ref m_time :: .ref m_target :: .ref m_work :: .ref m_arrival :: .ref m_sound :: .ref m_firstTx :: .ref m_txs :: .ref m_blockId :: .int 1 :: .int 0 :: .int 0 :: .int 0 :: .int 0 :: .ref m_heldLength :: .ref m_heldArrival :: .ref m_heldId :: .int 0 :: .ref m_ids :: .ref m_poolLength :: .ref m_poolFee :: .int 0 :: .int 0 :: .int 0 :: .ref m_inId :: .ref m_inIndex :: .ref m_keyAt :: .ref m_keyLength :: .int 0 :: .ref m_outValue :: .ref m_lockAt :: .ref m_lockLength :: .ref m_w :: .ref m_h :: .ref m_once :: .ref m_digest :: .ref m_signHash :: .ref m_buffer :: .ref m_merkle :: .ref m_stack :: .ref m_sizes :: .int 0 :: .ref m_branch :: .ref m_tipCoins :: .ref m_poolCoins :: .ref m_workCoins :: .ref m_path :: .ref m_order :: .ref m_spent :: []))), (m_w, .inl (e10, 64, .inl w)), (m_h, .inl (e11, 8, .inl f_4)), (m_once, .inl (e1, 32, .inl f3)), (m_merkle, .inl (e2, 1088, .inl f4))] → va_S A s.heap H locs → lv_has ls 13 [(0, .ref m0), (1, .ref m_once), (2, .int 0), (3, .int 32), (4, .ref m_merkle), (5, .int 0), (6, .int 64), (7, .int 0), (8, .int (nI i))] → (∀ (w : Nat → Int32) (H : Heap) (locs : List Loc) (ls : Array Slot), va_P (dC, dI) cl_all [(m0, .inr (11, (.ref m_mem :: .int 0 :: .int 0 :: .int 0 :: .ref m_at :: .ref m_length :: .ref m_parent :: .ref m_height :: .ref m_time :: .ref m_target :: .ref m_work :: .ref m_arrival :: .ref m_sound :: .ref m_firstTx :: .ref m_txs :: .ref m_blockId :: .int 1 :: .int 0 :: .int 0 :: .int 0 :: .int 0 :: .ref m_heldLength :: .ref m_heldArrival :: .ref m_heldId :: .int 0 :: .ref m_ids :: .ref m_poolLength :: .ref m_poolFee :: .int 0 :: .int 0 :: .int 0 :: .ref m_inId :: .ref m_inIndex :: .ref m_keyAt :: .ref m_keyLength :: .int 0 :: .ref m_outValue :: .ref m_lockAt :: .ref m_lockLength :: .ref m_w :: .ref m_h :: .ref m_once :: .ref m_digest :: .ref m_signHash :: .ref m_buffer :: .ref m_merkle :: .ref m_stack :: .ref m_sizes :: .int 0 :: .ref m_branch :: .ref m_tipCoins :: .ref m_poolCoins :: .ref m_workCoins :: .ref m_path :: .ref m_order :: .ref m_spent :: []))), (m_w, .inl (e10, 64, .inl w)), (m_h, .inl (e11, 8, .inl f_4)), (m_once, .inl (e1, 32, .inl f3)), (m_merkle, .inl (e2, 1088, .inl f4))] H → va_D A [(m0, .inr (11, (.ref m_mem :: .int 0 :: .int 0 :: .int 0 :: .ref m_at :: .ref m_length :: .ref m_parent :: .ref m_height :: .ref m_time :: .ref m_target :: .ref m_work :: .ref m_arrival :: .ref m_sound :: .ref m_firstTx :: .ref m_txs :: .ref m_blockId :: .int 1 :: .int 0 :: .int 0 :: .int 0 :: .int 0 :: .ref m_heldLength :: .ref m_heldArrival :: .ref m_heldId :: .int 0 :: .ref m_ids :: .ref m_poolLength :: .ref m_poolFee :: .int 0 :: .int 0 :: .int 0 :: .ref m_inId :: .ref m_inIndex :: .ref m_keyAt :: .ref m_keyLength :: .int 0 :: .ref m_outValue :: .ref m_lockAt :: .ref m_lockLength :: .ref m_w :: .ref m_h :: .ref m_once :: .ref m_digest :: .ref m_signHash :: .ref m_buffer :: .ref m_merkle :: .ref m_stack :: .ref m_sizes :: .int 0 :: .ref m_branch :: .ref m_tipCoins :: .ref m_poolCoins :: .ref m_workCoins :: .ref m_path :: .ref m_order :: .ref m_spent :: []))), (m_w, .inl (e10, 64, .inl w)), (m_h, .inl (e11, 8, .inl f_4)), (m_once, .inl (e1, 32, .inl f3)), (m_merkle, .inl (e2, 1088, .inl f4))] → va_S A s.heap H locs → lv_has ls 13 [(0, .ref m0), (1, .ref m_once), (2, .int 0), (3, .int 32), (4, .ref m_merkle), (5, .int 0), (6, .int 64), (7, .int 0), (8, .int (nI 16))] → W p l e (headSpec w_Mo_sha ({ frames := 1, cells := 0, slots := 0, locals := 31 })).room s m ([.ref m0, .ref m_once, .int 0, .int 32, .ref m_merkle, .int 0] : List Value).toArray below meth c H locs 0 0 Q (F0 m 187 ls [])) → W p l e (headSpec w_Mo_sha ({ frames := 1, cells := 0, slots := 0, locals := 31 })).room s m ([.ref m0, .ref m_once, .int 0, .int 32, .ref m_merkle, .int 0] : List Value).toArray below meth c H locs 0 0 Q (F0 m 57 ls []) := by
    intro Q n
    induction n with
    | zero =>
      intro i w H locs ls hi_57 ha_57  hP hD hS hl kx_57
      have hi_57 : i = 16 := by omega
      subst hi_57
      refine lv_iload hx hb d_Mo_sha_57 (lv_at hl 8 rfl) ?_
      refine lv_bipush (v := 16) hx hb d_Mo_sha_59 (by decide) ?_
      refine lv_icmp_ge (tgt := 187) hx hb d_Mo_sha_61 (by decide) (fun _ => ?_) (fun h => absurd ((nI_leI (a := 16) (b := (16)) (by omega) (by omega)).mpr (by omega)) h)
      exact kx_57 w _ _ _  hP hD hS (lv_sub hl [0, 1, 2, 3, 4, 5, 6, 7, 8] rfl)
    | succ n ih_57 =>
      intro i w H locs ls hi_57 ha_57  hP hD hS hl kx_57
      refine lv_iload hx hb d_Mo_sha_57 (lv_at hl 8 rfl) ?_
      refine lv_bipush (v := 16) hx hb d_Mo_sha_59 (by decide) ?_
      refine lv_icmp_ge (tgt := 187) hx hb d_Mo_sha_61 (by decide) (fun h => absurd h (fun h9 => absurd ((nI_leI (a := 16) (b := (i)) (by omega) (by omega)).mp h9) (by omega))) (fun _ => ?_)
      refine lv_iconst (v := 0) hx hb d_Mo_sha_64 (by decide) ?_
      refine lv_istore (lv' := [(9, .int 0), (0, .ref m0), (1, .ref m_once), (2, .int 0), (3, .int 32), (4, .ref m_merkle), (5, .int 0), (6, .int 64), (7, .int 0), (8, .int (nI i))]) hx hb d_Mo_sha_65 hl (by decide) rfl (fun ls hl => ?_)
      refine lv_iconst (v := 0) hx hb d_Mo_sha_67 (by decide) ?_
      refine lv_istore (lv' := [(10, .int 0), (9, .int 0), (0, .ref m0), (1, .ref m_once), (2, .int 0), (3, .int 32), (4, .ref m_merkle), (5, .int 0), (6, .int 64), (7, .int 0), (8, .int (nI i))]) hx hb d_Mo_sha_68 hl (by decide) rfl (fun ls hl => ?_)
      have lp70_6 : ∀ (Q : State → Prop) (n j : Nat) (wd : Int32) (H : Heap) (locs : List Loc) (ls : Array Slot), j + n = 4 → 0 ≤ j → va_P (dC, dI) cl_all [(m0, .inr (11, (.ref m_mem :: .int 0 :: .int 0 :: .int 0 :: .ref m_at :: .ref m_length :: .ref m_parent :: .ref m_height :: .ref m_time :: .ref m_target :: .ref m_work :: .ref m_arrival :: .ref m_sound :: .ref m_firstTx :: .ref m_txs :: .ref m_blockId :: .int 1 :: .int 0 :: .int 0 :: .int 0 :: .int 0 :: .ref m_heldLength :: .ref m_heldArrival :: .ref m_heldId :: .int 0 :: .ref m_ids :: .ref m_poolLength :: .ref m_poolFee :: .int 0 :: .int 0 :: .int 0 :: .ref m_inId :: .ref m_inIndex :: .ref m_keyAt :: .ref m_keyLength :: .int 0 :: .ref m_outValue :: .ref m_lockAt :: .ref m_lockLength :: .ref m_w :: .ref m_h :: .ref m_once :: .ref m_digest :: .ref m_signHash :: .ref m_buffer :: .ref m_merkle :: .ref m_stack :: .ref m_sizes :: .int 0 :: .ref m_branch :: .ref m_tipCoins :: .ref m_poolCoins :: .ref m_workCoins :: .ref m_path :: .ref m_order :: .ref m_spent :: []))), (m_w, .inl (e10, 64, .inl w)), (m_h, .inl (e11, 8, .inl f_4)), (m_once, .inl (e1, 32, .inl f3)), (m_merkle, .inl (e2, 1088, .inl f4))] H → va_D A [(m0, .inr (11, (.ref m_mem :: .int 0 :: .int 0 :: .int 0 :: .ref m_at :: .ref m_length :: .ref m_parent :: .ref m_height :: .ref m_time :: .ref m_target :: .ref m_work :: .ref m_arrival :: .ref m_sound :: .ref m_firstTx :: .ref m_txs :: .ref m_blockId :: .int 1 :: .int 0 :: .int 0 :: .int 0 :: .int 0 :: .ref m_heldLength :: .ref m_heldArrival :: .ref m_heldId :: .int 0 :: .ref m_ids :: .ref m_poolLength :: .ref m_poolFee :: .int 0 :: .int 0 :: .int 0 :: .ref m_inId :: .ref m_inIndex :: .ref m_keyAt :: .ref m_keyLength :: .int 0 :: .ref m_outValue :: .ref m_lockAt :: .ref m_lockLength :: .ref m_w :: .ref m_h :: .ref m_once :: .ref m_digest :: .ref m_signHash :: .ref m_buffer :: .ref m_merkle :: .ref m_stack :: .ref m_sizes :: .int 0 :: .ref m_branch :: .ref m_tipCoins :: .ref m_poolCoins :: .ref m_workCoins :: .ref m_path :: .ref m_order :: .ref m_spent :: []))), (m_w, .inl (e10, 64, .inl w)), (m_h, .inl (e11, 8, .inl f_4)), (m_once, .inl (e1, 32, .inl f3)), (m_merkle, .inl (e2, 1088, .inl f4))] → va_S A s.heap H locs → lv_has ls 13 [(0, .ref m0), (1, .ref m_once), (2, .int 0), (3, .int 32), (4, .ref m_merkle), (5, .int 0), (6, .int 64), (7, .int 0), (8, .int (nI i)), (9, .int wd), (10, .int (nI j))] → (∀ (wd : Int32) (H : Heap) (locs : List Loc) (ls : Array Slot), va_P (dC, dI) cl_all [(m0, .inr (11, (.ref m_mem :: .int 0 :: .int 0 :: .int 0 :: .ref m_at :: .ref m_length :: .ref m_parent :: .ref m_height :: .ref m_time :: .ref m_target :: .ref m_work :: .ref m_arrival :: .ref m_sound :: .ref m_firstTx :: .ref m_txs :: .ref m_blockId :: .int 1 :: .int 0 :: .int 0 :: .int 0 :: .int 0 :: .ref m_heldLength :: .ref m_heldArrival :: .ref m_heldId :: .int 0 :: .ref m_ids :: .ref m_poolLength :: .ref m_poolFee :: .int 0 :: .int 0 :: .int 0 :: .ref m_inId :: .ref m_inIndex :: .ref m_keyAt :: .ref m_keyLength :: .int 0 :: .ref m_outValue :: .ref m_lockAt :: .ref m_lockLength :: .ref m_w :: .ref m_h :: .ref m_once :: .ref m_digest :: .ref m_signHash :: .ref m_buffer :: .ref m_merkle :: .ref m_stack :: .ref m_sizes :: .int 0 :: .ref m_branch :: .ref m_tipCoins :: .ref m_poolCoins :: .ref m_workCoins :: .ref m_path :: .ref m_order :: .ref m_spent :: []))), (m_w, .inl (e10, 64, .inl w)), (m_h, .inl (e11, 8, .inl f_4)), (m_once, .inl (e1, 32, .inl f3)), (m_merkle, .inl (e2, 1088, .inl f4))] H → va_D A [(m0, .inr (11, (.ref m_mem :: .int 0 :: .int 0 :: .int 0 :: .ref m_at :: .ref m_length :: .ref m_parent :: .ref m_height :: .ref m_time :: .ref m_target :: .ref m_work :: .ref m_arrival :: .ref m_sound :: .ref m_firstTx :: .ref m_txs :: .ref m_blockId :: .int 1 :: .int 0 :: .int 0 :: .int 0 :: .int 0 :: .ref m_heldLength :: .ref m_heldArrival :: .ref m_heldId :: .int 0 :: .ref m_ids :: .ref m_poolLength :: .ref m_poolFee :: .int 0 :: .int 0 :: .int 0 :: .ref m_inId :: .ref m_inIndex :: .ref m_keyAt :: .ref m_keyLength :: .int 0 :: .ref m_outValue :: .ref m_lockAt :: .ref m_lockLength :: .ref m_w :: .ref m_h :: .ref m_once :: .ref m_digest :: .ref m_signHash :: .ref m_buffer :: .ref m_merkle :: .ref m_stack :: .ref m_sizes :: .int 0 :: .ref m_branch :: .ref m_tipCoins :: .ref m_poolCoins :: .ref m_workCoins :: .ref m_path :: .ref m_order :: .ref m_spent :: []))), (m_w, .inl (e10, 64, .inl w)), (m_h, .inl (e11, 8, .inl f_4)), (m_once, .inl (e1, 32, .inl f3)), (m_merkle, .inl (e2, 1088, .inl f4))] → va_S A s.heap H locs → lv_has ls 13 [(0, .ref m0), (1, .ref m_once), (2, .int 0), (3, .int 32), (4, .ref m_merkle), (5, .int 0), (6, .int 64), (7, .int 0), (8, .int (nI i)), (9, .int wd), (10, .int (nI 4))] → W p l e (headSpec w_Mo_sha ({ frames := 1, cells := 0, slots := 0, locals := 31 })).room s m ([.ref m0, .ref m_once, .int 0, .int 32, .ref m_merkle, .int 0] : List Value).toArray below meth c H locs 0 0 Q (F0 m 172 ls [])) → W p l e (headSpec w_Mo_sha ({ frames := 1, cells := 0, slots := 0, locals := 31 })).room s m ([.ref m0, .ref m_once, .int 0, .int 32, .ref m_merkle, .int 0] : List Value).toArray below meth c H locs 0 0 Q (F0 m 70 ls []) := by
        intro Q n
        induction n with
        | zero =>
          intro j wd H locs ls hi_70 ha_70  hP hD hS hl kx_70
          have hi_70 : j = 4 := by omega
          subst hi_70
          refine lv_iload hx hb d_Mo_sha_70 (lv_at hl 10 rfl) ?_
          refine lv_iconst (v := 4) hx hb d_Mo_sha_72 (by decide) ?_
          refine lv_icmp_ge (tgt := 172) hx hb d_Mo_sha_73 (by decide) (fun _ => ?_) (fun h => absurd ((nI_leI (a := 4) (b := (4)) (by omega) (by omega)).mpr (by omega)) h)
          exact kx_70 wd _ _ _  hP hD hS (lv_sub hl [0, 1, 2, 3, 4, 5, 6, 7, 8, 9, 10] rfl)
        | succ n ih_70 =>
          intro j wd H locs ls hi_70 ha_70  hP hD hS hl kx_70
          refine lv_iload hx hb d_Mo_sha_70 (lv_at hl 10 rfl) ?_
          refine lv_iconst (v := 4) hx hb d_Mo_sha_72 (by decide) ?_
          refine lv_icmp_ge (tgt := 172) hx hb d_Mo_sha_73 (by decide) (fun h => absurd h (fun h9 => absurd ((nI_leI (a := 4) (b := (j)) (by omega) (by omega)).mp h9) (by omega))) (fun _ => ?_)
          refine lv_iload hx hb d_Mo_sha_76 (lv_at hl 7 rfl) ?_
          refine lv_iconst (v := 4) hx hb d_Mo_sha_78 (by decide) ?_
          refine lv_iload hx hb d_Mo_sha_79 (lv_at hl 8 rfl) ?_
          refine lv_imul hx hb d_Mo_sha_81 ?_
          refine zz_i (v := nI (4 * (i))) (pk_mul 4 (i)) ?_
          refine lv_iadd hx hb d_Mo_sha_82 ?_
          refine zz_i (v := nI (0 + (4 * (i)))) (nI_add 0 (4 * (i))) ?_
          refine lv_iload hx hb d_Mo_sha_83 (lv_at hl 10 rfl) ?_
          refine lv_iadd hx hb d_Mo_sha_85 ?_
          refine zz_i (v := nI ((0 + (4 * (i))) + (j))) (nI_add (0 + (4 * (i))) (j)) ?_
          refine lv_istore (lv' := [(11, .int (nI ((0 + (4 * (i))) + (j)))), (0, .ref m0), (1, .ref m_once), (2, .int 0), (3, .int 32), (4, .ref m_merkle), (5, .int 0), (6, .int 64), (7, .int 0), (8, .int (nI i)), (9, .int wd), (10, .int (nI j))]) hx hb d_Mo_sha_86 hl (by decide) rfl (fun ls hl => ?_)
          refine lv_iload hx hb d_Mo_sha_88 (lv_at hl 0 rfl) ?_
          refine lv_iload_n hx hb d_Mo_sha_90 rfl (lv_at hl 4 rfl) ?_
          refine lv_icmp_ge (tgt := 107) hx hb d_Mo_sha_91 (by decide) (fun c_7 => ?_) (fun c_7 => ?_)
          · have c_7n := (nI_leI (a := 32) (b := ((0 + (4 * (i))) + (j))) (by omega) (by omega)).mp c_7
            refine lv_iload hx hb d_Mo_sha_107 (lv_at hl 0 rfl) ?_
            refine lv_iload_n hx hb d_Mo_sha_109 rfl (lv_at hl 4 rfl) ?_
            refine lv_icmp_ne (tgt := 119) hx hb d_Mo_sha_110 (by decide) (fun c_8 => ?_) (fun c_8 => ?_)
            · have c_8n : ¬ ((0 + (4 * (i))) + (j)) = 32 := fun h9 => c_8 ((nI_eq (a := ((0 + (4 * (i))) + (j))) (b := 32) (by omega) (by omega)).mpr h9)
              refine lv_iconst (v := 0) hx hb d_Mo_sha_119 (by decide) ?_
              refine lv_istore (lv' := [(12, .int 0), (11, .int (nI ((0 + (4 * (i))) + (j)))), (0, .ref m0), (1, .ref m_once), (2, .int 0), (3, .int 32), (4, .ref m_merkle), (5, .int 0), (6, .int 64), (7, .int 0), (8, .int (nI i)), (9, .int wd), (10, .int (nI j))]) hx hb d_Mo_sha_120 hl (by decide) rfl (fun ls hl => ?_)
              refine lv_iload hx hb d_Mo_sha_122 (lv_at hl 1 rfl) ?_
              refine lv_iload hx hb d_Mo_sha_124 (lv_at hl 8 rfl) ?_
              refine lv_bipush (v := 8) hx hb d_Mo_sha_126 (by decide) ?_
              refine lv_isub hx hb d_Mo_sha_128 ?_
              refine zz_i (v := 56) (by decide) ?_
              refine lv_icmp_lt (tgt := 156) hx hb d_Mo_sha_129 (by decide) (fun c_9 => ?_) (fun c_9 => ?_)
              · have c_9n := (nI_ltI (a := ((0 + (4 * (i))) + (j))) (b := 56) (by omega) (by omega)).mp c_9
                refine lv_iload hx hb d_Mo_sha_156 (lv_at hl 11 rfl) ?_
                refine lv_bipush (v := 8) hx hb d_Mo_sha_158 (by decide) ?_
                refine lv_ishl hx hb d_Mo_sha_160 ?_
                refine lv_topi (fun x_10 _ => ?_)
                refine lv_iload hx hb d_Mo_sha_161 (lv_at hl 0 rfl) ?_
                refine lv_ior hx hb d_Mo_sha_163 ?_
                refine lv_topi (fun x_11 _ => ?_)
                refine lv_istore (lv' := [(9, .int x_11), (12, .int 0), (11, .int (nI ((0 + (4 * (i))) + (j)))), (0, .ref m0), (1, .ref m_once), (2, .int 0), (3, .int 32), (4, .ref m_merkle), (5, .int 0), (6, .int 64), (7, .int 0), (8, .int (nI i)), (10, .int (nI j))]) hx hb d_Mo_sha_164 hl (by decide) rfl (fun ls hl => ?_)
                refine lv_iinc (v := (nI (j + 1))) (lv' := [(10, .int (nI (j + 1))), (9, .int x_11), (12, .int 0), (11, .int (nI ((0 + (4 * (i))) + (j)))), (0, .ref m0), (1, .ref m_once), (2, .int 0), (3, .int 32), (4, .ref m_merkle), (5, .int 0), (6, .int 64), (7, .int 0), (8, .int (nI i))]) hx hb d_Mo_sha_166 hl (k := 12) rfl (nI_add (j) 1) (by decide) rfl (fun ls hl => ?_)
                refine lv_goto (tgt := 70) hx hb d_Mo_sha_169 (by decide) ?_
                exact ih_70 (j + 1) x_11 _ _ _ (by omega) (by omega)  hP hD hS (lv_sub hl [4, 5, 6, 7, 8, 9, 10, 11, 12, 1, 0] rfl) kx_70
              · have c_9n : ¬ ((0 + (4 * (i))) + (j)) < 56 := fun h9 => c_9 ((nI_ltI (a := ((0 + (4 * (i))) + (j))) (b := 56) (by omega) (by omega)).mpr h9)
                refine lv_iload_n hx hb d_Mo_sha_132 rfl (lv_at hl 5 rfl) ?_
                refine lv_i2l (v := 32) hx hb d_Mo_sha_133 (by decide) ?_
                refine lv_ldc2 hx hb hown (hT _ k_382) d_Mo_sha_134 ?_
                refine lv_lmul hx hb d_Mo_sha_137 ?_
                refine lv_topl (fun x_12 _ => ?_)
                refine lv_bipush (v := 8) hx hb d_Mo_sha_138 (by decide) ?_
                refine lv_iload hx hb d_Mo_sha_140 (lv_at hl 8 rfl) ?_
                refine lv_iconst (v := 1) hx hb d_Mo_sha_142 (by decide) ?_
                refine lv_isub hx hb d_Mo_sha_143 ?_
                refine zz_i (v := 63) (by decide) ?_
                refine lv_iload hx hb d_Mo_sha_144 (lv_at hl 1 rfl) ?_
                refine lv_isub hx hb d_Mo_sha_146 ?_
                refine zz_i (v := nI (63 - ((0 + (4 * (i))) + (j)))) (pk_sub (a := 63) (b := ((0 + (4 * (i))) + (j))) (by omega)) ?_
                refine lv_imul hx hb d_Mo_sha_147 ?_
                refine zz_i (v := nI (8 * (63 - ((0 + (4 * (i))) + (j))))) (pk_mul 8 (63 - ((0 + (4 * (i))) + (j)))) ?_
                refine lv_lushr hx hb d_Mo_sha_148 rfl ?_
                refine lv_topl (fun x_13 _ => ?_)
                refine lv_l2i hx hb d_Mo_sha_149 rfl ?_
                refine lv_topi (fun x_14 _ => ?_)
                refine lv_sipush (v := 255) hx hb d_Mo_sha_150 (by decide) ?_
                refine lv_iand hx hb d_Mo_sha_153 ?_
                refine lv_topi (fun x_15 _ => ?_)
                refine lv_istore (lv' := [(12, .int x_15), (11, .int (nI ((0 + (4 * (i))) + (j)))), (0, .ref m0), (1, .ref m_once), (2, .int 0), (3, .int 32), (4, .ref m_merkle), (5, .int 0), (6, .int 64), (7, .int 0), (8, .int (nI i)), (9, .int wd), (10, .int (nI j))]) hx hb d_Mo_sha_154 hl (by decide) rfl (fun ls hl => ?_)
                refine lv_iload hx hb d_Mo_sha_156 (lv_at hl 11 rfl) ?_
                refine lv_bipush (v := 8) hx hb d_Mo_sha_158 (by decide) ?_
                refine lv_ishl hx hb d_Mo_sha_160 ?_
                refine lv_topi (fun x_16 _ => ?_)
                refine lv_iload hx hb d_Mo_sha_161 (lv_at hl 0 rfl) ?_
                refine lv_ior hx hb d_Mo_sha_163 ?_
                refine lv_topi (fun x_17 _ => ?_)
                refine lv_istore (lv' := [(9, .int x_17), (12, .int x_15), (11, .int (nI ((0 + (4 * (i))) + (j)))), (0, .ref m0), (1, .ref m_once), (2, .int 0), (3, .int 32), (4, .ref m_merkle), (5, .int 0), (6, .int 64), (7, .int 0), (8, .int (nI i)), (10, .int (nI j))]) hx hb d_Mo_sha_164 hl (by decide) rfl (fun ls hl => ?_)
                refine lv_iinc (v := (nI (j + 1))) (lv' := [(10, .int (nI (j + 1))), (9, .int x_17), (12, .int x_15), (11, .int (nI ((0 + (4 * (i))) + (j)))), (0, .ref m0), (1, .ref m_once), (2, .int 0), (3, .int 32), (4, .ref m_merkle), (5, .int 0), (6, .int 64), (7, .int 0), (8, .int (nI i))]) hx hb d_Mo_sha_166 hl (k := 12) rfl (nI_add (j) 1) (by decide) rfl (fun ls hl => ?_)
                refine lv_goto (tgt := 70) hx hb d_Mo_sha_169 (by decide) ?_
                exact ih_70 (j + 1) x_17 _ _ _ (by omega) (by omega)  hP hD hS (lv_sub hl [4, 5, 6, 7, 8, 9, 10, 11, 12, 1, 0] rfl) kx_70
            · have c_8n := (nI_eq (a := ((0 + (4 * (i))) + (j))) (b := 32) (by omega) (by omega)).mp c_8
              refine lv_sipush (v := 128) hx hb d_Mo_sha_113 (by decide) ?_
              refine lv_goto (tgt := 120) hx hb d_Mo_sha_116 (by decide) ?_
              refine lv_istore (lv' := [(12, .int 128), (11, .int (nI ((0 + (4 * (i))) + (j)))), (0, .ref m0), (1, .ref m_once), (2, .int 0), (3, .int 32), (4, .ref m_merkle), (5, .int 0), (6, .int 64), (7, .int 0), (8, .int (nI i)), (9, .int wd), (10, .int (nI j))]) hx hb d_Mo_sha_120 hl (by decide) rfl (fun ls hl => ?_)
              refine lv_iload hx hb d_Mo_sha_122 (lv_at hl 1 rfl) ?_
              refine lv_iload hx hb d_Mo_sha_124 (lv_at hl 8 rfl) ?_
              refine lv_bipush (v := 8) hx hb d_Mo_sha_126 (by decide) ?_
              refine lv_isub hx hb d_Mo_sha_128 ?_
              refine zz_i (v := 56) (by decide) ?_
              refine lv_icmp_lt (tgt := 156) hx hb d_Mo_sha_129 (by decide) (fun c_18 => ?_) (fun c_18 => ?_)
              · have c_18n := (nI_ltI (a := ((0 + (4 * (i))) + (j))) (b := 56) (by omega) (by omega)).mp c_18
                refine lv_iload hx hb d_Mo_sha_156 (lv_at hl 11 rfl) ?_
                refine lv_bipush (v := 8) hx hb d_Mo_sha_158 (by decide) ?_
                refine lv_ishl hx hb d_Mo_sha_160 ?_
                refine lv_topi (fun x_19 _ => ?_)
                refine lv_iload hx hb d_Mo_sha_161 (lv_at hl 0 rfl) ?_
                refine lv_ior hx hb d_Mo_sha_163 ?_
                refine lv_topi (fun x_20 _ => ?_)
                refine lv_istore (lv' := [(9, .int x_20), (12, .int 128), (11, .int (nI ((0 + (4 * (i))) + (j)))), (0, .ref m0), (1, .ref m_once), (2, .int 0), (3, .int 32), (4, .ref m_merkle), (5, .int 0), (6, .int 64), (7, .int 0), (8, .int (nI i)), (10, .int (nI j))]) hx hb d_Mo_sha_164 hl (by decide) rfl (fun ls hl => ?_)
                refine lv_iinc (v := (nI (j + 1))) (lv' := [(10, .int (nI (j + 1))), (9, .int x_20), (12, .int 128), (11, .int (nI ((0 + (4 * (i))) + (j)))), (0, .ref m0), (1, .ref m_once), (2, .int 0), (3, .int 32), (4, .ref m_merkle), (5, .int 0), (6, .int 64), (7, .int 0), (8, .int (nI i))]) hx hb d_Mo_sha_166 hl (k := 12) rfl (nI_add (j) 1) (by decide) rfl (fun ls hl => ?_)
                refine lv_goto (tgt := 70) hx hb d_Mo_sha_169 (by decide) ?_
                exact ih_70 (j + 1) x_20 _ _ _ (by omega) (by omega)  hP hD hS (lv_sub hl [4, 5, 6, 7, 8, 9, 10, 11, 12, 1, 0] rfl) kx_70
              · have c_18n : ¬ ((0 + (4 * (i))) + (j)) < 56 := fun h9 => c_18 ((nI_ltI (a := ((0 + (4 * (i))) + (j))) (b := 56) (by omega) (by omega)).mpr h9)
                refine lv_iload_n hx hb d_Mo_sha_132 rfl (lv_at hl 5 rfl) ?_
                refine lv_i2l (v := 32) hx hb d_Mo_sha_133 (by decide) ?_
                refine lv_ldc2 hx hb hown (hT _ k_382) d_Mo_sha_134 ?_
                refine lv_lmul hx hb d_Mo_sha_137 ?_
                refine lv_topl (fun x_21 _ => ?_)
                refine lv_bipush (v := 8) hx hb d_Mo_sha_138 (by decide) ?_
                refine lv_iload hx hb d_Mo_sha_140 (lv_at hl 8 rfl) ?_
                refine lv_iconst (v := 1) hx hb d_Mo_sha_142 (by decide) ?_
                refine lv_isub hx hb d_Mo_sha_143 ?_
                refine zz_i (v := 63) (by decide) ?_
                refine lv_iload hx hb d_Mo_sha_144 (lv_at hl 1 rfl) ?_
                refine lv_isub hx hb d_Mo_sha_146 ?_
                refine zz_i (v := nI (63 - ((0 + (4 * (i))) + (j)))) (pk_sub (a := 63) (b := ((0 + (4 * (i))) + (j))) (by omega)) ?_
                refine lv_imul hx hb d_Mo_sha_147 ?_
                refine zz_i (v := nI (8 * (63 - ((0 + (4 * (i))) + (j))))) (pk_mul 8 (63 - ((0 + (4 * (i))) + (j)))) ?_
                refine lv_lushr hx hb d_Mo_sha_148 rfl ?_
                refine lv_topl (fun x_22 _ => ?_)
                refine lv_l2i hx hb d_Mo_sha_149 rfl ?_
                refine lv_topi (fun x_23 _ => ?_)
                refine lv_sipush (v := 255) hx hb d_Mo_sha_150 (by decide) ?_
                refine lv_iand hx hb d_Mo_sha_153 ?_
                refine lv_topi (fun x_24 _ => ?_)
                refine lv_istore (lv' := [(12, .int x_24), (11, .int (nI ((0 + (4 * (i))) + (j)))), (0, .ref m0), (1, .ref m_once), (2, .int 0), (3, .int 32), (4, .ref m_merkle), (5, .int 0), (6, .int 64), (7, .int 0), (8, .int (nI i)), (9, .int wd), (10, .int (nI j))]) hx hb d_Mo_sha_154 hl (by decide) rfl (fun ls hl => ?_)
                refine lv_iload hx hb d_Mo_sha_156 (lv_at hl 11 rfl) ?_
                refine lv_bipush (v := 8) hx hb d_Mo_sha_158 (by decide) ?_
                refine lv_ishl hx hb d_Mo_sha_160 ?_
                refine lv_topi (fun x_25 _ => ?_)
                refine lv_iload hx hb d_Mo_sha_161 (lv_at hl 0 rfl) ?_
                refine lv_ior hx hb d_Mo_sha_163 ?_
                refine lv_topi (fun x_26 _ => ?_)
                refine lv_istore (lv' := [(9, .int x_26), (12, .int x_24), (11, .int (nI ((0 + (4 * (i))) + (j)))), (0, .ref m0), (1, .ref m_once), (2, .int 0), (3, .int 32), (4, .ref m_merkle), (5, .int 0), (6, .int 64), (7, .int 0), (8, .int (nI i)), (10, .int (nI j))]) hx hb d_Mo_sha_164 hl (by decide) rfl (fun ls hl => ?_)
                refine lv_iinc (v := (nI (j + 1))) (lv' := [(10, .int (nI (j + 1))), (9, .int x_26), (12, .int x_24), (11, .int (nI ((0 + (4 * (i))) + (j)))), (0, .ref m0), (1, .ref m_once), (2, .int 0), (3, .int 32), (4, .ref m_merkle), (5, .int 0), (6, .int 64), (7, .int 0), (8, .int (nI i))]) hx hb d_Mo_sha_166 hl (k := 12) rfl (nI_add (j) 1) (by decide) rfl (fun ls hl => ?_)
                refine lv_goto (tgt := 70) hx hb d_Mo_sha_169 (by decide) ?_
                exact ih_70 (j + 1) x_26 _ _ _ (by omega) (by omega)  hP hD hS (lv_sub hl [4, 5, 6, 7, 8, 9, 10, 11, 12, 1, 0] rfl) kx_70
          · have c_7n : ¬ 32 ≤ ((0 + (4 * (i))) + (j)) := fun h9 => c_7 ((nI_leI (a := 32) (b := ((0 + (4 * (i))) + (j))) (by omega) (by omega)).mpr h9)
            refine lv_aload_n hx hb d_Mo_sha_94 rfl (lv_at hl 2 rfl) ?_
            refine lv_iload_n hx hb d_Mo_sha_95 rfl (lv_at hl 3 rfl) ?_
            refine lv_iload hx hb d_Mo_sha_96 (lv_at hl 0 rfl) ?_
            refine lv_iadd hx hb d_Mo_sha_98 ?_
            refine zz_i (v := nI (0 + ((0 + (4 * (i))) + (j)))) (nI_add 0 ((0 + (4 * (i))) + (j))) ?_
            refine va_bald hx hb hK hP 3 2 rfl rfl (vp_in_nI (by omega) (by omega)) d_Mo_sha_99 ?_
            refine lv_topi (fun x_27 _ => ?_)
            refine lv_sipush (v := 255) hx hb d_Mo_sha_100 (by decide) ?_
            refine lv_iand hx hb d_Mo_sha_103 ?_
            refine lv_topi (fun x_28 _ => ?_)
            refine lv_goto (tgt := 120) hx hb d_Mo_sha_104 (by decide) ?_
            refine lv_istore (lv' := [(12, .int x_28), (11, .int (nI ((0 + (4 * (i))) + (j)))), (0, .ref m0), (1, .ref m_once), (2, .int 0), (3, .int 32), (4, .ref m_merkle), (5, .int 0), (6, .int 64), (7, .int 0), (8, .int (nI i)), (9, .int wd), (10, .int (nI j))]) hx hb d_Mo_sha_120 hl (by decide) rfl (fun ls hl => ?_)
            refine lv_iload hx hb d_Mo_sha_122 (lv_at hl 1 rfl) ?_
            refine lv_iload hx hb d_Mo_sha_124 (lv_at hl 8 rfl) ?_
            refine lv_bipush (v := 8) hx hb d_Mo_sha_126 (by decide) ?_
            refine lv_isub hx hb d_Mo_sha_128 ?_
            refine zz_i (v := 56) (by decide) ?_
            refine lv_icmp_lt (tgt := 156) hx hb d_Mo_sha_129 (by decide) (fun c_29 => ?_) (fun c_29 => ?_)
            · have c_29n := (nI_ltI (a := ((0 + (4 * (i))) + (j))) (b := 56) (by omega) (by omega)).mp c_29
              refine lv_iload hx hb d_Mo_sha_156 (lv_at hl 11 rfl) ?_
              refine lv_bipush (v := 8) hx hb d_Mo_sha_158 (by decide) ?_
              refine lv_ishl hx hb d_Mo_sha_160 ?_
              refine lv_topi (fun x_30 _ => ?_)
              refine lv_iload hx hb d_Mo_sha_161 (lv_at hl 0 rfl) ?_
              refine lv_ior hx hb d_Mo_sha_163 ?_
              refine lv_topi (fun x_31 _ => ?_)
              refine lv_istore (lv' := [(9, .int x_31), (12, .int x_28), (11, .int (nI ((0 + (4 * (i))) + (j)))), (0, .ref m0), (1, .ref m_once), (2, .int 0), (3, .int 32), (4, .ref m_merkle), (5, .int 0), (6, .int 64), (7, .int 0), (8, .int (nI i)), (10, .int (nI j))]) hx hb d_Mo_sha_164 hl (by decide) rfl (fun ls hl => ?_)
              refine lv_iinc (v := (nI (j + 1))) (lv' := [(10, .int (nI (j + 1))), (9, .int x_31), (12, .int x_28), (11, .int (nI ((0 + (4 * (i))) + (j)))), (0, .ref m0), (1, .ref m_once), (2, .int 0), (3, .int 32), (4, .ref m_merkle), (5, .int 0), (6, .int 64), (7, .int 0), (8, .int (nI i))]) hx hb d_Mo_sha_166 hl (k := 12) rfl (nI_add (j) 1) (by decide) rfl (fun ls hl => ?_)
              refine lv_goto (tgt := 70) hx hb d_Mo_sha_169 (by decide) ?_
              exact ih_70 (j + 1) x_31 _ _ _ (by omega) (by omega)  hP hD hS (lv_sub hl [4, 5, 6, 7, 8, 9, 10, 11, 12, 1, 0] rfl) kx_70
            · have c_29n : ¬ ((0 + (4 * (i))) + (j)) < 56 := fun h9 => c_29 ((nI_ltI (a := ((0 + (4 * (i))) + (j))) (b := 56) (by omega) (by omega)).mpr h9)
              refine lv_iload_n hx hb d_Mo_sha_132 rfl (lv_at hl 5 rfl) ?_
              refine lv_i2l (v := 32) hx hb d_Mo_sha_133 (by decide) ?_
              refine lv_ldc2 hx hb hown (hT _ k_382) d_Mo_sha_134 ?_
              refine lv_lmul hx hb d_Mo_sha_137 ?_
              refine lv_topl (fun x_32 _ => ?_)
              refine lv_bipush (v := 8) hx hb d_Mo_sha_138 (by decide) ?_
              refine lv_iload hx hb d_Mo_sha_140 (lv_at hl 8 rfl) ?_
              refine lv_iconst (v := 1) hx hb d_Mo_sha_142 (by decide) ?_
              refine lv_isub hx hb d_Mo_sha_143 ?_
              refine zz_i (v := 63) (by decide) ?_
              refine lv_iload hx hb d_Mo_sha_144 (lv_at hl 1 rfl) ?_
              refine lv_isub hx hb d_Mo_sha_146 ?_
              refine zz_i (v := nI (63 - ((0 + (4 * (i))) + (j)))) (pk_sub (a := 63) (b := ((0 + (4 * (i))) + (j))) (by omega)) ?_
              refine lv_imul hx hb d_Mo_sha_147 ?_
              refine zz_i (v := nI (8 * (63 - ((0 + (4 * (i))) + (j))))) (pk_mul 8 (63 - ((0 + (4 * (i))) + (j)))) ?_
              refine lv_lushr hx hb d_Mo_sha_148 rfl ?_
              refine lv_topl (fun x_33 _ => ?_)
              refine lv_l2i hx hb d_Mo_sha_149 rfl ?_
              refine lv_topi (fun x_34 _ => ?_)
              refine lv_sipush (v := 255) hx hb d_Mo_sha_150 (by decide) ?_
              refine lv_iand hx hb d_Mo_sha_153 ?_
              refine lv_topi (fun x_35 _ => ?_)
              refine lv_istore (lv' := [(12, .int x_35), (11, .int (nI ((0 + (4 * (i))) + (j)))), (0, .ref m0), (1, .ref m_once), (2, .int 0), (3, .int 32), (4, .ref m_merkle), (5, .int 0), (6, .int 64), (7, .int 0), (8, .int (nI i)), (9, .int wd), (10, .int (nI j))]) hx hb d_Mo_sha_154 hl (by decide) rfl (fun ls hl => ?_)
              refine lv_iload hx hb d_Mo_sha_156 (lv_at hl 11 rfl) ?_
              refine lv_bipush (v := 8) hx hb d_Mo_sha_158 (by decide) ?_
              refine lv_ishl hx hb d_Mo_sha_160 ?_
              refine lv_topi (fun x_36 _ => ?_)
              refine lv_iload hx hb d_Mo_sha_161 (lv_at hl 0 rfl) ?_
              refine lv_ior hx hb d_Mo_sha_163 ?_
              refine lv_topi (fun x_37 _ => ?_)
              refine lv_istore (lv' := [(9, .int x_37), (12, .int x_35), (11, .int (nI ((0 + (4 * (i))) + (j)))), (0, .ref m0), (1, .ref m_once), (2, .int 0), (3, .int 32), (4, .ref m_merkle), (5, .int 0), (6, .int 64), (7, .int 0), (8, .int (nI i)), (10, .int (nI j))]) hx hb d_Mo_sha_164 hl (by decide) rfl (fun ls hl => ?_)
              refine lv_iinc (v := (nI (j + 1))) (lv' := [(10, .int (nI (j + 1))), (9, .int x_37), (12, .int x_35), (11, .int (nI ((0 + (4 * (i))) + (j)))), (0, .ref m0), (1, .ref m_once), (2, .int 0), (3, .int 32), (4, .ref m_merkle), (5, .int 0), (6, .int 64), (7, .int 0), (8, .int (nI i))]) hx hb d_Mo_sha_166 hl (k := 12) rfl (nI_add (j) 1) (by decide) rfl (fun ls hl => ?_)
              refine lv_goto (tgt := 70) hx hb d_Mo_sha_169 (by decide) ?_
              exact ih_70 (j + 1) x_37 _ _ _ (by omega) (by omega)  hP hD hS (lv_sub hl [4, 5, 6, 7, 8, 9, 10, 11, 12, 1, 0] rfl) kx_70
      refine lp70_6 _ (4 - 0) 0 0 _ _ _ (by omega) (by omega)  hP hD hS (lv_sub hl [2, 3, 4, 5, 6, 7, 8, 9, 10, 1, 0] rfl) (fun x_38 H locs ls  hP hD hS hl => ?_)
      refine lv_aload_n hx hb d_Mo_sha_172 rfl (lv_at hl 0 rfl) ?_
      refine va_get (D := (dC, dI)) (ci := 11) (v := .ref m_w) (C := R_Mo) (T := F_Mo) (N := 56) hx hb hT i_Mo hown hK hP 0 rfl rfl 39 (by decide) (hT _ k_318) (fun _ h9 => h9) rfl d_Mo_sha_173 ?_
      refine lv_iload hx hb d_Mo_sha_176 (lv_at hl 8 rfl) ?_
      refine lv_iload hx hb d_Mo_sha_178 (lv_at hl 9 rfl) ?_
      refine zz_iast hx hb hK hP hD hS 1 0 rfl rfl (vp_in_nI (by omega) (by omega)) d_Mo_sha_180 (fun f_39 H locs hP hD hS => ?_)
      have hP : va_P (dC, dI) cl_all [(m0, .inr (11, (.ref m_mem :: .int 0 :: .int 0 :: .int 0 :: .ref m_at :: .ref m_length :: .ref m_parent :: .ref m_height :: .ref m_time :: .ref m_target :: .ref m_work :: .ref m_arrival :: .ref m_sound :: .ref m_firstTx :: .ref m_txs :: .ref m_blockId :: .int 1 :: .int 0 :: .int 0 :: .int 0 :: .int 0 :: .ref m_heldLength :: .ref m_heldArrival :: .ref m_heldId :: .int 0 :: .ref m_ids :: .ref m_poolLength :: .ref m_poolFee :: .int 0 :: .int 0 :: .int 0 :: .ref m_inId :: .ref m_inIndex :: .ref m_keyAt :: .ref m_keyLength :: .int 0 :: .ref m_outValue :: .ref m_lockAt :: .ref m_lockLength :: .ref m_w :: .ref m_h :: .ref m_once :: .ref m_digest :: .ref m_signHash :: .ref m_buffer :: .ref m_merkle :: .ref m_stack :: .ref m_sizes :: .int 0 :: .ref m_branch :: .ref m_tipCoins :: .ref m_poolCoins :: .ref m_workCoins :: .ref m_path :: .ref m_order :: .ref m_spent :: []))), (m_w, .inl (e10, 64, .inl f_39)), (m_h, .inl (e11, 8, .inl f_4)), (m_once, .inl (e1, 32, .inl f3)), (m_merkle, .inl (e2, 1088, .inl f4))] H := hP
      have hD : va_D A [(m0, .inr (11, (.ref m_mem :: .int 0 :: .int 0 :: .int 0 :: .ref m_at :: .ref m_length :: .ref m_parent :: .ref m_height :: .ref m_time :: .ref m_target :: .ref m_work :: .ref m_arrival :: .ref m_sound :: .ref m_firstTx :: .ref m_txs :: .ref m_blockId :: .int 1 :: .int 0 :: .int 0 :: .int 0 :: .int 0 :: .ref m_heldLength :: .ref m_heldArrival :: .ref m_heldId :: .int 0 :: .ref m_ids :: .ref m_poolLength :: .ref m_poolFee :: .int 0 :: .int 0 :: .int 0 :: .ref m_inId :: .ref m_inIndex :: .ref m_keyAt :: .ref m_keyLength :: .int 0 :: .ref m_outValue :: .ref m_lockAt :: .ref m_lockLength :: .ref m_w :: .ref m_h :: .ref m_once :: .ref m_digest :: .ref m_signHash :: .ref m_buffer :: .ref m_merkle :: .ref m_stack :: .ref m_sizes :: .int 0 :: .ref m_branch :: .ref m_tipCoins :: .ref m_poolCoins :: .ref m_workCoins :: .ref m_path :: .ref m_order :: .ref m_spent :: []))), (m_w, .inl (e10, 64, .inl f_39)), (m_h, .inl (e11, 8, .inl f_4)), (m_once, .inl (e1, 32, .inl f3)), (m_merkle, .inl (e2, 1088, .inl f4))] := hD
      refine lv_iinc (v := (nI (i + 1))) (lv' := [(8, .int (nI (i + 1))), (0, .ref m0), (1, .ref m_once), (2, .int 0), (3, .int 32), (4, .ref m_merkle), (5, .int 0), (6, .int 64), (7, .int 0), (9, .int x_38), (10, .int (nI 4))]) hx hb d_Mo_sha_181 hl (k := 8) rfl (nI_add (i) 1) (by decide) rfl (fun ls hl => ?_)
      refine lv_goto (tgt := 57) hx hb d_Mo_sha_184 (by decide) ?_
      exact ih_57 (i + 1) f_39 _ _ _ (by omega) (by omega)  hP hD hS (lv_sub hl [1, 2, 3, 4, 5, 6, 7, 8, 0] rfl) kx_57
  refine lp57_5 _ (16 - 0) 0 f1 _ _ _ (by omega) (by omega)  hP hD hS (lv_sub hl [3, 4, 5, 6, 7, 8, 2, 1, 0] rfl) (fun f_40 H locs ls  hP hD hS hl => ?_)
  refine lv_aload_n hx hb d_Mo_sha_187 rfl (lv_at hl 0 rfl) ?_
  have hPc := hP.sub (ws' := [(m0, .inr (11, (.ref m_mem :: .int 0 :: .int 0 :: .int 0 :: .ref m_at :: .ref m_length :: .ref m_parent :: .ref m_height :: .ref m_time :: .ref m_target :: .ref m_work :: .ref m_arrival :: .ref m_sound :: .ref m_firstTx :: .ref m_txs :: .ref m_blockId :: .int 1 :: .int 0 :: .int 0 :: .int 0 :: .int 0 :: .ref m_heldLength :: .ref m_heldArrival :: .ref m_heldId :: .int 0 :: .ref m_ids :: .ref m_poolLength :: .ref m_poolFee :: .int 0 :: .int 0 :: .int 0 :: .ref m_inId :: .ref m_inIndex :: .ref m_keyAt :: .ref m_keyLength :: .int 0 :: .ref m_outValue :: .ref m_lockAt :: .ref m_lockLength :: .ref m_w :: .ref m_h :: .ref m_once :: .ref m_digest :: .ref m_signHash :: .ref m_buffer :: .ref m_merkle :: .ref m_stack :: .ref m_sizes :: .int 0 :: .ref m_branch :: .ref m_tipCoins :: .ref m_poolCoins :: .ref m_workCoins :: .ref m_path :: .ref m_order :: .ref m_spent :: []))), (m_w, .inl (e10, 64, .inl f_40)), (m_h, .inl (e11, 8, .inl f_4))]) [0, 1, 2] rfl
  have hDc := hD.sub (ws' := [(m0, .inr (11, (.ref m_mem :: .int 0 :: .int 0 :: .int 0 :: .ref m_at :: .ref m_length :: .ref m_parent :: .ref m_height :: .ref m_time :: .ref m_target :: .ref m_work :: .ref m_arrival :: .ref m_sound :: .ref m_firstTx :: .ref m_txs :: .ref m_blockId :: .int 1 :: .int 0 :: .int 0 :: .int 0 :: .int 0 :: .ref m_heldLength :: .ref m_heldArrival :: .ref m_heldId :: .int 0 :: .ref m_ids :: .ref m_poolLength :: .ref m_poolFee :: .int 0 :: .int 0 :: .int 0 :: .ref m_inId :: .ref m_inIndex :: .ref m_keyAt :: .ref m_keyLength :: .int 0 :: .ref m_outValue :: .ref m_lockAt :: .ref m_lockLength :: .ref m_w :: .ref m_h :: .ref m_once :: .ref m_digest :: .ref m_signHash :: .ref m_buffer :: .ref m_merkle :: .ref m_stack :: .ref m_sizes :: .int 0 :: .ref m_branch :: .ref m_tipCoins :: .ref m_poolCoins :: .ref m_workCoins :: .ref m_path :: .ref m_order :: .ref m_spent :: []))), (m_w, .inl (e10, 64, .inl f_40)), (m_h, .inl (e11, 8, .inl f_4))]) [0, 1, 2] (by decide) rfl
  have hKc := hK.sub (tys' := [(e10, .int), (e11, .int)]) [0, 1] rfl
  have hFc := va_free (wc := [(m0, .inr (11, (.ref m_mem :: .int 0 :: .int 0 :: .int 0 :: .ref m_at :: .ref m_length :: .ref m_parent :: .ref m_height :: .ref m_time :: .ref m_target :: .ref m_work :: .ref m_arrival :: .ref m_sound :: .ref m_firstTx :: .ref m_txs :: .ref m_blockId :: .int 1 :: .int 0 :: .int 0 :: .int 0 :: .int 0 :: .ref m_heldLength :: .ref m_heldArrival :: .ref m_heldId :: .int 0 :: .ref m_ids :: .ref m_poolLength :: .ref m_poolFee :: .int 0 :: .int 0 :: .int 0 :: .ref m_inId :: .ref m_inIndex :: .ref m_keyAt :: .ref m_keyLength :: .int 0 :: .ref m_outValue :: .ref m_lockAt :: .ref m_lockLength :: .ref m_w :: .ref m_h :: .ref m_once :: .ref m_digest :: .ref m_signHash :: .ref m_buffer :: .ref m_merkle :: .ref m_stack :: .ref m_sizes :: .int 0 :: .ref m_branch :: .ref m_tipCoins :: .ref m_poolCoins :: .ref m_workCoins :: .ref m_path :: .ref m_order :: .ref m_spent :: []))), (m_w, .inl (e10, 64, .inl f_40)), (m_h, .inl (e11, 8, .inl f_4))]) hD hS hA [0, 1, 2] rfl
  refine va_callv (va_runV (C := R_Mo) (As := []) (rest := []) ⟨hx, hb, hml, hown, hT⟩ (c_Mo_round l dC dI z H.size m0 m_mem m_at m_length m_parent m_height m_time m_target m_work m_arrival m_sound m_firstTx m_txs m_blockId m_heldLength m_heldArrival m_heldId m_ids m_poolLength m_poolFee m_inId m_inIndex m_keyAt m_keyLength m_outValue m_lockAt m_lockLength m_w m_h m_once m_digest m_signHash m_buffer m_merkle m_stack m_sizes m_branch m_tipCoins m_poolCoins m_workCoins m_path m_order m_spent e10 e11 f_40 f_4) ⟨callB_of 0 hT g_Mo_round rfl rfl rfl (hT _ k_342) (hT _ k_383) (by decide +kernel) ⟨Nat.le_of_ble_eq_true rfl, Nat.le_of_ble_eq_true rfl⟩, (hT _ k_384), (hT _ k_385)⟩ (zz_preV hPc hKc hDc hZ hS hFc hK hP (ci := 11) (q0 := 0) (q := (R_Mo, F_Mo, 56)) rfl rfl) rfl rfl hl.1 rfl (lv_room (Nat.le_of_ble_eq_true rfl)) d_Mo_sha_188 ⟨Nat.le_of_ble_eq_true rfl, Nat.le_of_ble_eq_true rfl⟩) hS (fun q _ h => hFc q h) hFc (fun u9 t9 H1 locs ht9 hvm9 hw9 hB9 hz19 hk19 hS => ?_)
  obtain ⟨f_42, f_43, hP1, hK1, hD1⟩ := hB9
  rw [ht9] at hP1
  obtain ⟨hP, hD⟩ := va_join (wr := [(m_once, .inl (e1, 32, .inl f3)), (m_merkle, .inl (e2, 1088, .inl f4))]) (w1 := [(m0, .inr (11, (.ref m_mem :: .int 0 :: .int 0 :: .int 0 :: .ref m_at :: .ref m_length :: .ref m_parent :: .ref m_height :: .ref m_time :: .ref m_target :: .ref m_work :: .ref m_arrival :: .ref m_sound :: .ref m_firstTx :: .ref m_txs :: .ref m_blockId :: .int 1 :: .int 0 :: .int 0 :: .int 0 :: .int 0 :: .ref m_heldLength :: .ref m_heldArrival :: .ref m_heldId :: .int 0 :: .ref m_ids :: .ref m_poolLength :: .ref m_poolFee :: .int 0 :: .int 0 :: .int 0 :: .ref m_inId :: .ref m_inIndex :: .ref m_keyAt :: .ref m_keyLength :: .int 0 :: .ref m_outValue :: .ref m_lockAt :: .ref m_lockLength :: .ref m_w :: .ref m_h :: .ref m_once :: .ref m_digest :: .ref m_signHash :: .ref m_buffer :: .ref m_merkle :: .ref m_stack :: .ref m_sizes :: .int 0 :: .ref m_branch :: .ref m_tipCoins :: .ref m_poolCoins :: .ref m_workCoins :: .ref m_path :: .ref m_order :: .ref m_spent :: []))), (m_w, .inl (e10, 64, .inl f_42)), (m_h, .inl (e11, 8, .inl f_43))]) hP hD [0, 1, 2] [3, 4] rfl rfl (by decide) (by decide) hk19 hFc hP1 hD1
  generalize H1 = H at hP hS ⊢
  have hP : va_P (dC, dI) cl_all [(m_once, .inl (e1, 32, .inl f3)), (m_merkle, .inl (e2, 1088, .inl f4)), (m0, .inr (11, (.ref m_mem :: .int 0 :: .int 0 :: .int 0 :: .ref m_at :: .ref m_length :: .ref m_parent :: .ref m_height :: .ref m_time :: .ref m_target :: .ref m_work :: .ref m_arrival :: .ref m_sound :: .ref m_firstTx :: .ref m_txs :: .ref m_blockId :: .int 1 :: .int 0 :: .int 0 :: .int 0 :: .int 0 :: .ref m_heldLength :: .ref m_heldArrival :: .ref m_heldId :: .int 0 :: .ref m_ids :: .ref m_poolLength :: .ref m_poolFee :: .int 0 :: .int 0 :: .int 0 :: .ref m_inId :: .ref m_inIndex :: .ref m_keyAt :: .ref m_keyLength :: .int 0 :: .ref m_outValue :: .ref m_lockAt :: .ref m_lockLength :: .ref m_w :: .ref m_h :: .ref m_once :: .ref m_digest :: .ref m_signHash :: .ref m_buffer :: .ref m_merkle :: .ref m_stack :: .ref m_sizes :: .int 0 :: .ref m_branch :: .ref m_tipCoins :: .ref m_poolCoins :: .ref m_workCoins :: .ref m_path :: .ref m_order :: .ref m_spent :: []))), (m_w, .inl (e10, 64, .inl f_42)), (m_h, .inl (e11, 8, .inl f_43))] H := hP
  have hD : va_D A [(m_once, .inl (e1, 32, .inl f3)), (m_merkle, .inl (e2, 1088, .inl f4)), (m0, .inr (11, (.ref m_mem :: .int 0 :: .int 0 :: .int 0 :: .ref m_at :: .ref m_length :: .ref m_parent :: .ref m_height :: .ref m_time :: .ref m_target :: .ref m_work :: .ref m_arrival :: .ref m_sound :: .ref m_firstTx :: .ref m_txs :: .ref m_blockId :: .int 1 :: .int 0 :: .int 0 :: .int 0 :: .int 0 :: .ref m_heldLength :: .ref m_heldArrival :: .ref m_heldId :: .int 0 :: .ref m_ids :: .ref m_poolLength :: .ref m_poolFee :: .int 0 :: .int 0 :: .int 0 :: .ref m_inId :: .ref m_inIndex :: .ref m_keyAt :: .ref m_keyLength :: .int 0 :: .ref m_outValue :: .ref m_lockAt :: .ref m_lockLength :: .ref m_w :: .ref m_h :: .ref m_once :: .ref m_digest :: .ref m_signHash :: .ref m_buffer :: .ref m_merkle :: .ref m_stack :: .ref m_sizes :: .int 0 :: .ref m_branch :: .ref m_tipCoins :: .ref m_poolCoins :: .ref m_workCoins :: .ref m_path :: .ref m_order :: .ref m_spent :: []))), (m_w, .inl (e10, 64, .inl f_42)), (m_h, .inl (e11, 8, .inl f_43))] := hD
  refine lv_iinc (v := 64) (lv' := [(7, .int 64), (0, .ref m0), (1, .ref m_once), (2, .int 0), (3, .int 32), (4, .ref m_merkle), (5, .int 0), (6, .int 64), (8, .int (nI 16))]) hx hb d_Mo_sha_191 hl (k := 7) rfl (by decide) (by decide) rfl (fun ls hl => ?_)
  refine lv_goto (tgt := 47) hx hb d_Mo_sha_194 (by decide) ?_
  refine lv_iload hx hb d_Mo_sha_47 (lv_at hl 0 rfl) ?_
  refine lv_iload hx hb d_Mo_sha_49 (lv_at hl 7 rfl) ?_
  refine lv_icmp_ge (tgt := 197) hx hb d_Mo_sha_51 (by decide) (fun _ => ?_) (fun h => absurd (by decide) h)
  refine lv_iconst (v := 0) hx hb d_Mo_sha_197 (by decide) ?_
  refine lv_istore (lv' := [(7, .int 0), (0, .ref m0), (1, .ref m_once), (2, .int 0), (3, .int 32), (4, .ref m_merkle), (5, .int 0), (6, .int 64), (8, .int (nI 16))]) hx hb d_Mo_sha_198 hl (by decide) rfl (fun ls hl => ?_)
  have lp200_44 : ∀ (Q : State → Prop) (n i : Nat) (to : Nat → Int32) (H : Heap) (locs : List Loc) (ls : Array Slot), i + n = 32 → 0 ≤ i → sb_Fit to → va_P (dC, dI) cl_all [(m_once, .inl (e1, 32, .inl f3)), (m_merkle, .inl (e2, 1088, .inl to)), (m0, .inr (11, (.ref m_mem :: .int 0 :: .int 0 :: .int 0 :: .ref m_at :: .ref m_length :: .ref m_parent :: .ref m_height :: .ref m_time :: .ref m_target :: .ref m_work :: .ref m_arrival :: .ref m_sound :: .ref m_firstTx :: .ref m_txs :: .ref m_blockId :: .int 1 :: .int 0 :: .int 0 :: .int 0 :: .int 0 :: .ref m_heldLength :: .ref m_heldArrival :: .ref m_heldId :: .int 0 :: .ref m_ids :: .ref m_poolLength :: .ref m_poolFee :: .int 0 :: .int 0 :: .int 0 :: .ref m_inId :: .ref m_inIndex :: .ref m_keyAt :: .ref m_keyLength :: .int 0 :: .ref m_outValue :: .ref m_lockAt :: .ref m_lockLength :: .ref m_w :: .ref m_h :: .ref m_once :: .ref m_digest :: .ref m_signHash :: .ref m_buffer :: .ref m_merkle :: .ref m_stack :: .ref m_sizes :: .int 0 :: .ref m_branch :: .ref m_tipCoins :: .ref m_poolCoins :: .ref m_workCoins :: .ref m_path :: .ref m_order :: .ref m_spent :: []))), (m_w, .inl (e10, 64, .inl f_42)), (m_h, .inl (e11, 8, .inl f_43))] H → va_D A [(m_once, .inl (e1, 32, .inl f3)), (m_merkle, .inl (e2, 1088, .inl to)), (m0, .inr (11, (.ref m_mem :: .int 0 :: .int 0 :: .int 0 :: .ref m_at :: .ref m_length :: .ref m_parent :: .ref m_height :: .ref m_time :: .ref m_target :: .ref m_work :: .ref m_arrival :: .ref m_sound :: .ref m_firstTx :: .ref m_txs :: .ref m_blockId :: .int 1 :: .int 0 :: .int 0 :: .int 0 :: .int 0 :: .ref m_heldLength :: .ref m_heldArrival :: .ref m_heldId :: .int 0 :: .ref m_ids :: .ref m_poolLength :: .ref m_poolFee :: .int 0 :: .int 0 :: .int 0 :: .ref m_inId :: .ref m_inIndex :: .ref m_keyAt :: .ref m_keyLength :: .int 0 :: .ref m_outValue :: .ref m_lockAt :: .ref m_lockLength :: .ref m_w :: .ref m_h :: .ref m_once :: .ref m_digest :: .ref m_signHash :: .ref m_buffer :: .ref m_merkle :: .ref m_stack :: .ref m_sizes :: .int 0 :: .ref m_branch :: .ref m_tipCoins :: .ref m_poolCoins :: .ref m_workCoins :: .ref m_path :: .ref m_order :: .ref m_spent :: []))), (m_w, .inl (e10, 64, .inl f_42)), (m_h, .inl (e11, 8, .inl f_43))] → va_S A s.heap H locs → lv_has ls 13 [(0, .ref m0), (1, .ref m_once), (2, .int 0), (3, .int 32), (4, .ref m_merkle), (5, .int 0), (6, .int 64), (7, .int (nI i))] → (∀ (to : Nat → Int32) (H : Heap) (locs : List Loc) (ls : Array Slot), sb_Fit to → va_P (dC, dI) cl_all [(m_once, .inl (e1, 32, .inl f3)), (m_merkle, .inl (e2, 1088, .inl to)), (m0, .inr (11, (.ref m_mem :: .int 0 :: .int 0 :: .int 0 :: .ref m_at :: .ref m_length :: .ref m_parent :: .ref m_height :: .ref m_time :: .ref m_target :: .ref m_work :: .ref m_arrival :: .ref m_sound :: .ref m_firstTx :: .ref m_txs :: .ref m_blockId :: .int 1 :: .int 0 :: .int 0 :: .int 0 :: .int 0 :: .ref m_heldLength :: .ref m_heldArrival :: .ref m_heldId :: .int 0 :: .ref m_ids :: .ref m_poolLength :: .ref m_poolFee :: .int 0 :: .int 0 :: .int 0 :: .ref m_inId :: .ref m_inIndex :: .ref m_keyAt :: .ref m_keyLength :: .int 0 :: .ref m_outValue :: .ref m_lockAt :: .ref m_lockLength :: .ref m_w :: .ref m_h :: .ref m_once :: .ref m_digest :: .ref m_signHash :: .ref m_buffer :: .ref m_merkle :: .ref m_stack :: .ref m_sizes :: .int 0 :: .ref m_branch :: .ref m_tipCoins :: .ref m_poolCoins :: .ref m_workCoins :: .ref m_path :: .ref m_order :: .ref m_spent :: []))), (m_w, .inl (e10, 64, .inl f_42)), (m_h, .inl (e11, 8, .inl f_43))] H → va_D A [(m_once, .inl (e1, 32, .inl f3)), (m_merkle, .inl (e2, 1088, .inl to)), (m0, .inr (11, (.ref m_mem :: .int 0 :: .int 0 :: .int 0 :: .ref m_at :: .ref m_length :: .ref m_parent :: .ref m_height :: .ref m_time :: .ref m_target :: .ref m_work :: .ref m_arrival :: .ref m_sound :: .ref m_firstTx :: .ref m_txs :: .ref m_blockId :: .int 1 :: .int 0 :: .int 0 :: .int 0 :: .int 0 :: .ref m_heldLength :: .ref m_heldArrival :: .ref m_heldId :: .int 0 :: .ref m_ids :: .ref m_poolLength :: .ref m_poolFee :: .int 0 :: .int 0 :: .int 0 :: .ref m_inId :: .ref m_inIndex :: .ref m_keyAt :: .ref m_keyLength :: .int 0 :: .ref m_outValue :: .ref m_lockAt :: .ref m_lockLength :: .ref m_w :: .ref m_h :: .ref m_once :: .ref m_digest :: .ref m_signHash :: .ref m_buffer :: .ref m_merkle :: .ref m_stack :: .ref m_sizes :: .int 0 :: .ref m_branch :: .ref m_tipCoins :: .ref m_poolCoins :: .ref m_workCoins :: .ref m_path :: .ref m_order :: .ref m_spent :: []))), (m_w, .inl (e10, 64, .inl f_42)), (m_h, .inl (e11, 8, .inl f_43))] → va_S A s.heap H locs → lv_has ls 13 [(0, .ref m0), (1, .ref m_once), (2, .int 0), (3, .int 32), (4, .ref m_merkle), (5, .int 0), (6, .int 64), (7, .int (nI 32))] → W p l e (headSpec w_Mo_sha ({ frames := 1, cells := 0, slots := 0, locals := 31 })).room s m ([.ref m0, .ref m_once, .int 0, .int 32, .ref m_merkle, .int 0] : List Value).toArray below meth c H locs 0 0 Q (F0 m 242 ls [])) → W p l e (headSpec w_Mo_sha ({ frames := 1, cells := 0, slots := 0, locals := 31 })).room s m ([.ref m0, .ref m_once, .int 0, .int 32, .ref m_merkle, .int 0] : List Value).toArray below meth c H locs 0 0 Q (F0 m 200 ls []) := by
    intro Q n
    induction n with
    | zero =>
      intro i to H locs ls hi_200 ha_200 hf_to hP hD hS hl kx_200
      have hi_200 : i = 32 := by omega
      subst hi_200
      refine lv_iload hx hb d_Mo_sha_200 (lv_at hl 7 rfl) ?_
      refine lv_bipush (v := 32) hx hb d_Mo_sha_202 (by decide) ?_
      refine lv_icmp_ge (tgt := 242) hx hb d_Mo_sha_204 (by decide) (fun _ => ?_) (fun h => absurd ((nI_leI (a := 32) (b := (32)) (by omega) (by omega)).mpr (by omega)) h)
      exact kx_200 to _ _ _ hf_to hP hD hS (lv_sub hl [0, 1, 2, 3, 4, 5, 6, 7] rfl)
    | succ n ih_200 =>
      intro i to H locs ls hi_200 ha_200 hf_to hP hD hS hl kx_200
      refine lv_iload hx hb d_Mo_sha_200 (lv_at hl 7 rfl) ?_
      refine lv_bipush (v := 32) hx hb d_Mo_sha_202 (by decide) ?_
      refine lv_icmp_ge (tgt := 242) hx hb d_Mo_sha_204 (by decide) (fun h => absurd h (fun h9 => absurd ((nI_leI (a := 32) (b := (i)) (by omega) (by omega)).mp h9) (by omega))) (fun _ => ?_)
      refine lv_aload hx hb d_Mo_sha_207 (lv_at hl 4 rfl) ?_
      refine lv_iload hx hb d_Mo_sha_209 (lv_at hl 5 rfl) ?_
      refine lv_iload hx hb d_Mo_sha_211 (lv_at hl 7 rfl) ?_
      refine lv_iadd hx hb d_Mo_sha_213 ?_
      refine zz_i (v := nI (0 + (i))) (nI_add 0 (i)) ?_
      refine lv_aload_n hx hb d_Mo_sha_214 rfl (lv_at hl 0 rfl) ?_
      refine va_get (D := (dC, dI)) (ci := 11) (v := .ref m_h) (C := R_Mo) (T := F_Mo) (N := 56) hx hb hT i_Mo hown hK hP 2 rfl rfl 40 (by decide) (hT _ k_319) (fun _ h9 => h9) rfl d_Mo_sha_215 ?_
      refine lv_iload hx hb d_Mo_sha_218 (lv_at hl 7 rfl) ?_
      refine lv_iconst (v := 4) hx hb d_Mo_sha_220 (by decide) ?_
      refine lv_idiv hx hb d_Mo_sha_221 (by decide) ?_
      refine zz_i (v := nI ((i) / 4)) (pk_div (a := (i)) (d := 4) (by omega) (by decide) (by decide)) ?_
      refine va_iald hx hb hK hP 4 1 rfl rfl (vp_in_nI (by omega) (by omega)) d_Mo_sha_222 ?_
      refine lv_topi (fun x_45 _ => ?_)
      refine lv_bipush (v := 24) hx hb d_Mo_sha_223 (by decide) ?_
      refine lv_bipush (v := 8) hx hb d_Mo_sha_225 (by decide) ?_
      refine lv_iload hx hb d_Mo_sha_227 (lv_at hl 7 rfl) ?_
      refine lv_iconst (v := 4) hx hb d_Mo_sha_229 (by decide) ?_
      refine lv_irem hx hb d_Mo_sha_230 (by decide) ?_
      refine zz_i (v := nI ((i) % 4)) (pk_rem (a := (i)) (d := 4) (by omega) (by decide) (by decide)) ?_
      refine lv_imul hx hb d_Mo_sha_231 ?_
      refine zz_i (v := nI (8 * ((i) % 4))) (pk_mul 8 ((i) % 4)) ?_
      refine lv_isub hx hb d_Mo_sha_232 ?_
      refine zz_i (v := nI (24 - (8 * ((i) % 4)))) (pk_sub (a := 24) (b := (8 * ((i) % 4))) (by omega)) ?_
      refine lv_iushr hx hb d_Mo_sha_233 rfl ?_
      refine lv_topi (fun x_46 _ => ?_)
      refine lv_i2b hx hb d_Mo_sha_234 rfl ?_
      refine lv_topi (fun x_47 _ => ?_)
      refine zz_bast hx hb hK hP hD hS 1 3 rfl rfl (vp_in_nI (by omega) (by omega)) hf_to d_Mo_sha_235 (fun f_48 hf_49 H locs hP hD hS => ?_)
      have hP : va_P (dC, dI) cl_all [(m_once, .inl (e1, 32, .inl f3)), (m_merkle, .inl (e2, 1088, .inl f_48)), (m0, .inr (11, (.ref m_mem :: .int 0 :: .int 0 :: .int 0 :: .ref m_at :: .ref m_length :: .ref m_parent :: .ref m_height :: .ref m_time :: .ref m_target :: .ref m_work :: .ref m_arrival :: .ref m_sound :: .ref m_firstTx :: .ref m_txs :: .ref m_blockId :: .int 1 :: .int 0 :: .int 0 :: .int 0 :: .int 0 :: .ref m_heldLength :: .ref m_heldArrival :: .ref m_heldId :: .int 0 :: .ref m_ids :: .ref m_poolLength :: .ref m_poolFee :: .int 0 :: .int 0 :: .int 0 :: .ref m_inId :: .ref m_inIndex :: .ref m_keyAt :: .ref m_keyLength :: .int 0 :: .ref m_outValue :: .ref m_lockAt :: .ref m_lockLength :: .ref m_w :: .ref m_h :: .ref m_once :: .ref m_digest :: .ref m_signHash :: .ref m_buffer :: .ref m_merkle :: .ref m_stack :: .ref m_sizes :: .int 0 :: .ref m_branch :: .ref m_tipCoins :: .ref m_poolCoins :: .ref m_workCoins :: .ref m_path :: .ref m_order :: .ref m_spent :: []))), (m_w, .inl (e10, 64, .inl f_42)), (m_h, .inl (e11, 8, .inl f_43))] H := hP
      have hD : va_D A [(m_once, .inl (e1, 32, .inl f3)), (m_merkle, .inl (e2, 1088, .inl f_48)), (m0, .inr (11, (.ref m_mem :: .int 0 :: .int 0 :: .int 0 :: .ref m_at :: .ref m_length :: .ref m_parent :: .ref m_height :: .ref m_time :: .ref m_target :: .ref m_work :: .ref m_arrival :: .ref m_sound :: .ref m_firstTx :: .ref m_txs :: .ref m_blockId :: .int 1 :: .int 0 :: .int 0 :: .int 0 :: .int 0 :: .ref m_heldLength :: .ref m_heldArrival :: .ref m_heldId :: .int 0 :: .ref m_ids :: .ref m_poolLength :: .ref m_poolFee :: .int 0 :: .int 0 :: .int 0 :: .ref m_inId :: .ref m_inIndex :: .ref m_keyAt :: .ref m_keyLength :: .int 0 :: .ref m_outValue :: .ref m_lockAt :: .ref m_lockLength :: .ref m_w :: .ref m_h :: .ref m_once :: .ref m_digest :: .ref m_signHash :: .ref m_buffer :: .ref m_merkle :: .ref m_stack :: .ref m_sizes :: .int 0 :: .ref m_branch :: .ref m_tipCoins :: .ref m_poolCoins :: .ref m_workCoins :: .ref m_path :: .ref m_order :: .ref m_spent :: []))), (m_w, .inl (e10, 64, .inl f_42)), (m_h, .inl (e11, 8, .inl f_43))] := hD
      refine lv_iinc (v := (nI (i + 1))) (lv' := [(7, .int (nI (i + 1))), (0, .ref m0), (1, .ref m_once), (2, .int 0), (3, .int 32), (4, .ref m_merkle), (5, .int 0), (6, .int 64)]) hx hb d_Mo_sha_236 hl (k := 7) rfl (nI_add (i) 1) (by decide) rfl (fun ls hl => ?_)
      refine lv_goto (tgt := 200) hx hb d_Mo_sha_239 (by decide) ?_
      exact ih_200 (i + 1) f_48 _ _ _ (by omega) (by omega) hf_49 hP hD hS (lv_sub hl [1, 2, 3, 4, 5, 6, 7, 0] rfl) kx_200
  refine lp200_44 _ (32 - 0) 0 f4 _ _ _ (by omega) (by omega) hf_f4 hP hD hS (lv_sub hl [1, 2, 3, 4, 5, 6, 7, 0] rfl) (fun f_50 H locs ls hf_51 hP hD hS hl => ?_)
  have hP9 := hP.sub (ws' := [(m0, .inr (11, (.ref m_mem :: .int 0 :: .int 0 :: .int 0 :: .ref m_at :: .ref m_length :: .ref m_parent :: .ref m_height :: .ref m_time :: .ref m_target :: .ref m_work :: .ref m_arrival :: .ref m_sound :: .ref m_firstTx :: .ref m_txs :: .ref m_blockId :: .int 1 :: .int 0 :: .int 0 :: .int 0 :: .int 0 :: .ref m_heldLength :: .ref m_heldArrival :: .ref m_heldId :: .int 0 :: .ref m_ids :: .ref m_poolLength :: .ref m_poolFee :: .int 0 :: .int 0 :: .int 0 :: .ref m_inId :: .ref m_inIndex :: .ref m_keyAt :: .ref m_keyLength :: .int 0 :: .ref m_outValue :: .ref m_lockAt :: .ref m_lockLength :: .ref m_w :: .ref m_h :: .ref m_once :: .ref m_digest :: .ref m_signHash :: .ref m_buffer :: .ref m_merkle :: .ref m_stack :: .ref m_sizes :: .int 0 :: .ref m_branch :: .ref m_tipCoins :: .ref m_poolCoins :: .ref m_workCoins :: .ref m_path :: .ref m_order :: .ref m_spent :: []))), (m_w, .inl (e10, 64, .inl f_42)), (m_h, .inl (e11, 8, .inl f_43)), (m_once, .inl (e1, 32, .inl f3)), (m_merkle, .inl (e2, 1088, .inl f_50))]) [2, 3, 4, 0, 1] rfl
  have hD9 := hD.sub (ws' := [(m0, .inr (11, (.ref m_mem :: .int 0 :: .int 0 :: .int 0 :: .ref m_at :: .ref m_length :: .ref m_parent :: .ref m_height :: .ref m_time :: .ref m_target :: .ref m_work :: .ref m_arrival :: .ref m_sound :: .ref m_firstTx :: .ref m_txs :: .ref m_blockId :: .int 1 :: .int 0 :: .int 0 :: .int 0 :: .int 0 :: .ref m_heldLength :: .ref m_heldArrival :: .ref m_heldId :: .int 0 :: .ref m_ids :: .ref m_poolLength :: .ref m_poolFee :: .int 0 :: .int 0 :: .int 0 :: .ref m_inId :: .ref m_inIndex :: .ref m_keyAt :: .ref m_keyLength :: .int 0 :: .ref m_outValue :: .ref m_lockAt :: .ref m_lockLength :: .ref m_w :: .ref m_h :: .ref m_once :: .ref m_digest :: .ref m_signHash :: .ref m_buffer :: .ref m_merkle :: .ref m_stack :: .ref m_sizes :: .int 0 :: .ref m_branch :: .ref m_tipCoins :: .ref m_poolCoins :: .ref m_workCoins :: .ref m_path :: .ref m_order :: .ref m_spent :: []))), (m_w, .inl (e10, 64, .inl f_42)), (m_h, .inl (e11, 8, .inl f_43)), (m_once, .inl (e1, 32, .inl f3)), (m_merkle, .inl (e2, 1088, .inl f_50))]) [2, 3, 4, 0, 1] (by decide) rfl
  have hK9 := hK.sub (tys' := []) [] rfl
  exact W.vret hx hb hr (fun t9 ht9 hW9 => ⟨⟨(), rfl, trivial, ⟨f_42, f_43, f_50, hf_51, by rw [ht9]; exact hP9, va_K.moved hW9.alike hK9, hD9⟩⟩, hS.F ht9⟩) hS.2.2 d_Mo_sha_242
