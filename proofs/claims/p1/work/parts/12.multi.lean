/-! an array of 24 rows of 80 bytes: what is made is not looked at, but for its address; nothing old changes -/
section ZMULTI
variable {p : Program} {l : Launch} {e : Env} {R : Room} {s : State} {m : MethodId} {args : Array Value} {below : List Frame} {meth : Method} {c : Code} {H : Heap} {locs : List Loc} {cells slots : Nat} {Q : State → Prop}
variable {cc : ByteArray} {pc : Nat} {ls : Array Slot} {rest : List Value} {D : va_G} {cl : List vw_C} {A : Nat → Prop} {ws : va_W}
theorem zz_multi (hexec : p.tables.exec = Jvm.exec) (hb : c.code = cc) {own : String} {index : Nat} (hown : s.vm.findClass own = some m.cls) (hclink : (Cond.classLink own index "[[B").before args s = true) (hover : (Cond.arrayOver (.array .byte)).before args s = true) (harr : (Cond.arrayClass .byte).before args s = true)
    (hP : va_P D cl ws H) (hS : va_S A s.heap H locs) (hA : ∀ q, s.heap.size ≤ q → A q) (hcells : cells + 25 ≤ R.cells) (hslots : slots + 1944 ≤ R.slots) (hdg : decode cc pc = .ok (.multianewarray index 2, 4))
    (kk : ∀ (q : Nat) (H1 : Heap) (locs1 : List Loc), va_P D cl ws H1 → va_S A s.heap H1 locs1 → W p l e R s m args below meth c H1 locs1 (cells + 25) (slots + 1944) Q (F0 m (pc + 4) ls (.ref q :: rest))) : W p l e R s m args below meth c H locs cells slots Q (F0 m pc ls (.int 80 :: .int 24 :: rest)) := by
  intro T hT X
  subst hb
  have en : "[" ++ (FieldType.array .byte).toString = "[[B" := by decide +kernel
  have e24 : (24 : Int32).toNatClampNeg = 24 := by decide
  have e80 : (80 : Int32).toNatClampNeg = 80 := by decide
  obtain ⟨vm, cA, comp, hW, -, -, X', step⟩ := X.multianewarray2 hexec (ty := .byte) hown (by rw [en]; exact hclink) hover harr (g := F0 m pc ls (.int 80 :: .int 24 :: rest)) rfl hdg (n := 24) (k := 80) (rest := rest) rfl (by decide) (by decide) (by decide) (by decide) (by decide) (by decide) (by decide) (by rw [e24]; omega) (by rw [e24, e80]; omega)
  rw [e24, e80] at X'
  rw [e24, e80] at step
  have hsz := (Jvm.Free.Multi.fill_facts (T.setVm vm) cA comp 24 80 (defaultValue .byte) 24).1
  have hold : ∀ q : Nat, q < H.size → (Jvm.Free.Multi.fill (T.setVm vm) cA comp 24 80 (defaultValue .byte) 24).heap[q]? = H[q]? := fun q hq => by
    rw [Jvm.Free.Multi.fill_old (T.setVm vm) cA comp 24 80 (defaultValue .byte) (a := q) (show q < T.heap.size by rw [hT]; exact hq) 24]
    show T.heap[q]? = _
    rw [hT]
  have h0 : (T.setVm vm).heap.size = H.size := by show T.heap.size = _; rw [hT]
  have hs0 := hS.1
  obtain ⟨t, a1, b1⟩ := kk T.heap.size _ _ (hP.kept (fun k q hk => hold q.1 (hP k q hk).lt)) ⟨by rw [hsz, h0]; omega, fun q h1 h2 => by rw [hold q (by omega)]; exact hS.2.1 q h1 h2, fun q hq => by
    rcases List.mem_append.mp hq with h | h
    · exact hS.2.2 q h
    · obtain ⟨j, -, hj⟩ := List.mem_map.mp h
      rw [← hj]
      exact hA _ (by show _ ≤ T.heap.size; rw [hT]; exact hS.1)⟩ _ rfl X'
  exact ⟨t, step t a1, b1⟩
end ZMULTI

