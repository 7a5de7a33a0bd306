set_option maxHeartbeats 4000000 in
set_option maxRecDepth 100000 in
/-- THE LAW, from its entry, for every script of at most 6 ints -/
theorem whole_start {p : Program} {e : Env} {s : State} {m : MethodId} {below : List Frame} {meth : Method} {c : Code} (l : Launch) {b L : Nat} {xs : Nat → Int32} (hL : L ≤ 6) (C0 : lw_At p s m meth c b L xs) : W p l e room_1 s m #[Value.ref b] below meth c s.heap [] 0 0 (lw_Z below #[Value.ref b] s) (entryFrame m ([Value.ref b] : List Value).toArray 4) := by
  obtain ⟨hx, hb, hr, hml, hown, hts, hX, hbl, hlocks, hgv⟩ := id C0
  have hT : ∀ w ∈ lw_all, w.before #[Value.ref b] s = true := fun w h => hts w (List.mem_filter.mp h).1
  obtain ⟨A, hAe⟩ : ∃ A : Nat → Prop, A = fun q => s.heap.size ≤ q := ⟨_, rfl⟩
  obtain ⟨z, hZ⟩ := zs_all (A := A) (zN_of hts) hts hgv (fun a h => by rw [hAe]; exact Nat.not_le.mpr h)
  obtain ⟨c0, iS0, hKn0⟩ := u_known (C := R_CL) (T := F_CL) (N := 10) (n := 10) hT i_CL (hT _ (lw_t 25 (by decide +kernel) rfl))
  obtain ⟨c1, iS1, hKn1⟩ := u_known (C := R_Row) (T := F_Row) (N := 2) (n := 2) hT i_Row (hT _ (lw_t 33 (by decide +kernel) rfl))
  obtain ⟨c2, iS2, hKn2⟩ := u_known (C := R_Sha) (T := F_Sha) (N := 2) (n := 2) hT i_Sha (hT _ (lw_t 51 (by decide +kernel) rfl))
  obtain ⟨c3, iS3, hKn3⟩ := u_known (C := R_Judge) (T := F_Judge) (N := 4) (n := 4) hT i_Judge (hT _ (lw_t 65 (by decide +kernel) rfl))
  obtain ⟨c4, iS4, hKn4⟩ := u_known (C := R_Machine) (T := F_Machine) (N := 11) (n := 11) hT i_Machine (hT _ (lw_t 75 (by decide +kernel) rfl))
  obtain ⟨c5, iS5, hKn5⟩ := u_known (C := R_Chain) (T := F_Chain) (N := 17) (n := 17) hT i_Chain (hT _ (lw_t 132 (by decide +kernel) rfl))
  obtain ⟨c6, iS6, hKn6⟩ := u_known (C := R_Block) (T := F_Block) (N := 17) (n := 17) hT i_Block (hT _ (lw_t 181 (by decide +kernel) rfl))
  obtain ⟨c7, iS7, hKn7⟩ := u_known (C := R_Payment) (T := F_Payment) (N := 16) (n := 16) hT i_Payment (hT _ (lw_t 359 (by decide +kernel) rfl))
  obtain ⟨c8, iS8, hKn8⟩ := u_known (C := R_Coins) (T := F_Coins) (N := 1) (n := 1) hT i_Coins (hT _ (lw_t 138 (by decide +kernel) rfl))
  obtain ⟨c9, iS9, hKn9⟩ := u_known (C := R_Pool) (T := F_Pool) (N := 7) (n := 7) hT i_Pool (hT _ (lw_t 328 (by decide +kernel) rfl))
  obtain ⟨c10, iS10, hKn10⟩ := u_known (C := R_AL) (T := F_AL) (N := 3) (n := 3) hT i_AL (hT _ (lw_t 147 (by decide +kernel) rfl))
  obtain ⟨c11, iS11, hKn11⟩ := u_known (C := R_Mo) (T := F_Mo) (N := 56) (n := 56) hT i_Mo (hT _ (lw_t 1123 (by decide +kernel) rfl))
  obtain ⟨c12, iS12, hKn12⟩ := u_known (C := R_Mc) (T := F_Mc) (N := 8) (n := 8) hT i_Mc (hT _ (lw_t 1131 (by decide +kernel) rfl))
  obtain ⟨dC, dI, hKc⟩ : ∃ (dC : Nat → ClassId) (dI : Nat → Nat → Nat), ∀ (k : Nat) (q : vw_C), cl_all[k]? = some q → u_Kn s q.1 q.2.1 q.2.2 (dC k) (dI k) := by
    refine ⟨fun k => if k = 0 then c0 else if k = 1 then c1 else if k = 2 then c2 else if k = 3 then c3 else if k = 4 then c4 else if k = 5 then c5 else if k = 6 then c6 else if k = 7 then c7 else if k = 8 then c8 else if k = 9 then c9 else if k = 10 then c10 else if k = 11 then c11 else c12, fun k => if k = 0 then iS0 else if k = 1 then iS1 else if k = 2 then iS2 else if k = 3 then iS3 else if k = 4 then iS4 else if k = 5 then iS5 else if k = 6 then iS6 else if k = 7 then iS7 else if k = 8 then iS8 else if k = 9 then iS9 else if k = 10 then iS10 else if k = 11 then iS11 else iS12, ?_⟩
    intro k q hq
    match k, hq with
    | 0, hq => cases hq; exact hKn0
    | 1, hq => cases hq; exact hKn1
    | 2, hq => cases hq; exact hKn2
    | 3, hq => cases hq; exact hKn3
    | 4, hq => cases hq; exact hKn4
    | 5, hq => cases hq; exact hKn5
    | 6, hq => cases hq; exact hKn6
    | 7, hq => cases hq; exact hKn7
    | 8, hq => cases hq; exact hKn8
    | 9, hq => cases hq; exact hKn9
    | 10, hq => cases hq; exact hKn10
    | 11, hq => cases hq; exact hKn11
    | 12, hq => cases hq; exact hKn12
    | k + 13, hq => simp [cl_all] at hq
  exact whole_go hL C0 hAe hZ ⟨hKc, fun k q h => by simp at h⟩
