section ZST
variable {s : State} {args : Array Value}
theorem z_tbl (hts : ∀ w ∈ lw_tbl, w.before args s = true) : ∀ w ∈ UW, w.before args s = true := fun w hw => hts w (List.mem_filter.mp hw).1
theorem z_arr (ty : FieldType) (h : (Cond.arrayClass ty).before args s = true) : ∃ cA : ClassId, ArrOfT s cA ty ∧ s.vm.findClass ("[" ++ ty.toString) = some cA := by
  obtain ⟨cA, kA, comp, h1, h2, h3⟩ := Cond.arrayClass_spec h
  exact ⟨cA, fun n z => ⟨(fun k h => by cases h), kA, h2, comp, h3⟩, h1⟩
theorem z_arrO (C : String) (h : va_AO C s) : ∃ cA : ClassId, ArrOfT s cA (.object C) ∧ va_RA s cA (.object C) := by
  obtain ⟨comp, cA, kA, f3, -, f2, f1, f4⟩ := Cond.arrayOver_spec (va_AO.use (A := #[]) h)
  exact ⟨cA, fun N z => ⟨(fun k h => by cases h), kA, f2, comp, f1⟩, kA, comp, f2, f1, f3, f4⟩
theorem z_know (hts : ∀ w ∈ lw_tbl, w.before args s = true) : ∃ (D : va_G) (ca : Nat → ClassId), ZK D ca s := by
  have hu := z_tbl hts
  obtain ⟨c0, i0, k0⟩ := u_known hu u_hin0 (hu _ u_inst_X0)
  obtain ⟨c1, i1, k1⟩ := u_known hu u_hin1 (hu _ u_inst_X1)
  obtain ⟨c2, i2, k2⟩ := u_known hu u_hin2 (hu _ u_inst_X2)
  obtain ⟨c3, i3, k3⟩ := u_known hu u_hin3 (hu _ u_inst_X3)
  obtain ⟨c4, i4, k4⟩ := u_known hu u_hin4 (hu _ u_inst_X4)
  obtain ⟨c5, i5, k5⟩ := u_known hu u_hin5 (hu _ u_inst_X5)
  have o1 : va_AO RX1 s := va_AO.of (hts _ (List.mem_of_getElem? (i := 293) (by decide +kernel)))
  have o2 : va_AO RX2 s := va_AO.of (hts _ (List.mem_of_getElem? (i := 54) (by decide +kernel)))
  have o3 : va_AO RX3 s := va_AO.of (hts _ (List.mem_of_getElem? (i := 52) (by decide +kernel)))
  obtain ⟨a0, b0, e0⟩ := z_arr .int (hu _ u_ar_int)
  obtain ⟨a1, b1, e1⟩ := z_arr .boolean (hu _ u_ar_boolean)
  obtain ⟨a5, b5, e5⟩ := z_arr .long (hu _ u_ar_long)
  obtain ⟨a2, b2, e2⟩ := z_arrO RX3 o3
  obtain ⟨a3, b3, e3⟩ := z_arrO RX2 o2
  obtain ⟨a4, b4, e4⟩ := z_arrO RX1 o1
  refine ⟨(fun i => match i with | 0 => c0 | 1 => c1 | 2 => c2 | 3 => c3 | 4 => c4 | _ => c5, fun i => match i with | 0 => i0 | 1 => i1 | 2 => i2 | 3 => i3 | 4 => i4 | _ => i5), (fun i => match i with | 0 => a0 | 1 => a1 | 2 => a2 | 3 => a3 | 4 => a4 | _ => a5), ⟨fun c q hq => ?_, fun k q hk => ?_⟩, va_Nw.of rfl (hts _ (List.mem_of_getElem? (i := 267) (by decide +kernel))), va_Nw.of rfl (hts _ (List.mem_of_getElem? (i := 57) (by decide +kernel))), o1, o2, o3⟩
  · have hz : c < 6 := (List.getElem?_eq_some_iff.mp hq).1
    rcases (show c = 0 ∨ c = 1 ∨ c = 2 ∨ c = 3 ∨ c = 4 ∨ c = 5 by omega) with rfl | rfl | rfl | rfl | rfl | rfl <;> cases hq
    · exact k0
    · exact k1
    · exact k2
    · exact k3
    · exact k4
    · exact k5
  · have hz : k < 6 := (List.getElem?_eq_some_iff.mp hk).1
    rcases (show k = 0 ∨ k = 1 ∨ k = 2 ∨ k = 3 ∨ k = 4 ∨ k = 5 by omega) with rfl | rfl | rfl | rfl | rfl | rfl <;> cases hk
    · exact ⟨b0, e0⟩
    · exact ⟨b1, e1⟩
    · exact ⟨b2, e2⟩
    · exact ⟨b3, e3⟩
    · exact ⟨b4, e4⟩
    · exact ⟨b5, e5⟩
theorem z_str {k : Nat} {tx : String} (h1 : (Cond.stringRef RX4 k tx).before args s = true) (h2 : (Cond.exactly (.string RX4 k) "java/lang/String").before args s = true) : ∃ a, vk_R RX4 k tx a s := by
  obtain ⟨a, -, -, -, ha, -⟩ := Cond.exactly_spec h2
  exact ⟨a, vk_R.of h1 ha⟩
theorem z_knowX (hts : ∀ w ∈ lw_tbl, w.before args s = true) (hgv : (Jvm.Cond.and given_1 narrow_1).before args s = true) : ZX s := by
  have hs := flat_of_before _ hgv
  refine ⟨fun w hw => ?_, z_str (hts _ (List.mem_of_getElem? (i := 531) (by decide +kernel))) (hs _ (by decide +kernel)), z_str (hts _ (List.mem_of_getElem? (i := 558) (by decide +kernel))) (hs _ (by decide +kernel))⟩
  simp only [oxB, List.mem_cons, List.not_mem_nil, or_false] at hw
  rcases hw with rfl | rfl | rfl | rfl
  · exact va_Nw.of rfl (hts _ (List.mem_of_getElem? (i := 494) (by decide +kernel)))
  · exact va_Nw.of rfl (hts _ (List.mem_of_getElem? (i := 496) (by decide +kernel)))
  · exact va_Nw.of rfl (hts _ (List.mem_of_getElem? (i := 498) (by decide +kernel)))
  · exact va_Nw.of rfl (hts _ (List.mem_of_getElem? (i := 500) (by decide +kernel)))
theorem z_knowU (hts : ∀ w ∈ lw_tbl, w.before args s = true) (hgv : (Jvm.Cond.and given_1 narrow_1).before args s = true) : vx_Zq Bundle.tN "UNASSIGNED_STACK" Bundle.steD (fun q => s.heap.size ≤ q) s s.heap :=
  vx_Zqof (hts _ (List.mem_of_getElem? (i := 519) (by decide +kernel))) (hts _ (List.mem_of_getElem? (i := 36) (by decide +kernel))) (flat_of_before _ hgv _ (by decide +kernel)) (fun a h => Nat.not_le.mpr h)
theorem z_knowN (hts : ∀ w ∈ lw_tbl, w.before args s = true) (hgv : (Jvm.Cond.and given_1 narrow_1).before args s = true) : vx_Zq Bundle.tN "SUPPRESSED_SENTINEL" Bundle.listD (fun q => s.heap.size ≤ q) s s.heap :=
  vx_Zqof (hts _ (List.mem_of_getElem? (i := 521) (by decide +kernel))) (hts _ (List.mem_of_getElem? (i := 36) (by decide +kernel))) (flat_of_before _ hgv _ (by decide +kernel)) (fun a h => Nat.not_le.mpr h)
theorem z_flags {l : Launch} (h : l.flags = flags0) : l.stackTraces = false := by
  unfold Launch.stackTraces
  rw [h]
  decide +kernel
end ZST
