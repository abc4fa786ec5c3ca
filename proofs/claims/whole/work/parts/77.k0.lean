/-! the start: what the walks rest on; by wip/whole/genV.py -/
section K0
variable {args : Array Value} {s : State}
theorem w_arr {ty : FieldType} (h : (Cond.arrayClass ty).before args s = true) : ∃ cA : ClassId, ArrOfT s cA ty ∧ s.vm.findClass ("[" ++ ty.toString) = some cA := by
  obtain ⟨cA, kA, comp, h1, h2, h3⟩ := Cond.arrayClass_spec h
  exact ⟨cA, fun n z => ⟨fun k h => (by cases h), kA, h2, comp, h3⟩, h1⟩
theorem w_arrO {C : String} (h : (Cond.arrayOver (.object C)).before args s = true) : ∃ cA : ClassId, ArrOfT s cA (.object C) ∧ va_RA s cA (.object C) := by
  obtain ⟨comp, cA, kA, h1, h2, h3, h4, h5⟩ := Cond.arrayOver_spec h
  exact ⟨cA, fun n z => ⟨fun k h => (by cases h), kA, h3, comp, h4⟩, kA, comp, h3, h4, h1, h5⟩
theorem w_str {own tx : String} {k : Nat} (h1 : (Cond.stringRef own k tx).before args s = true) (h2 : (Cond.exactly (.string own k) "java/lang/String").before args s = true) : ∃ a, vk_R own k tx a s := by
  obtain ⟨a, cA, cell, kA, h3, -⟩ := Cond.exactly_spec h2
  exact ⟨a, vk_R.of h1 h3⟩
theorem w_S1 : ∀ q ∈ cTx, Cond.stringRef q.1 q.2.1 q.2.2 ∈ lw_tbl := by decide +kernel
theorem w_S2 : ∀ q ∈ cTx, Cond.exactly (.string q.1 q.2.1) "java/lang/String" ∈ flatC (Jvm.Cond.and given_1 narrow_1) := by decide +kernel
theorem w_V1 : ∀ X ∈ cEx, Cond.castable X X ∈ lw_tbl := by decide +kernel
theorem w_V2 : ∀ y ∈ cDec, Cond.declares y ∈ lw_tbl := by decide +kernel
theorem w_V3 : ∀ X ∈ cEx, ∀ Y ∈ cEx, X ≠ Y → Cond.not (.castable X Y) ∈ flatC (Jvm.Cond.and given_1 narrow_1) := by decide +kernel
theorem w_V4 : ∀ X ∈ cOb, Cond.castable X "java/lang/Object" ∈ lw_tbl := by decide +kernel

theorem w_K (hts : ∀ w ∈ lw_tbl, w.before args s = true) (mi : Nat) : ∃ (D : va_G) (a : Nat → ClassId), D.1 99 = mi ∧ ∀ E0 : Nat, va_K D vwCl (gm D a E0).2.1 s := by
  obtain ⟨c0, i0, h0⟩ := u_known (C := RJ0) (T := TJ0) (N := 4) (n := 4) hts inJ0 (hts (.instantiable RJ0 4) (by decide +kernel))
  obtain ⟨c1, i1, h1⟩ := u_known (C := RJ4) (T := TJ4) (N := 4) (n := 4) hts inJ4 (hts (.instantiable RJ4 4) (by decide +kernel))
  obtain ⟨c2, i2, h2⟩ := u_known (C := RJx00060) (T := TJx00060) (N := 6) (n := 6) hts inJx00060 (hts (.instantiable RJx00060 6) (by decide +kernel))
  obtain ⟨c3, i3, h3⟩ := u_known (C := RJx4a65c) (T := TJx4a65c) (N := 3) (n := 3) hts inJx4a65c (hts (.instantiable RJx4a65c 3) (by decide +kernel))
  obtain ⟨c4, i4, h4⟩ := u_known (C := RX0) (T := TX0) (N := 9) (n := 9) hts inX0 (hts (.instantiable RX0 9) (by decide +kernel))
  obtain ⟨c5, i5, h5⟩ := u_known (C := RX1) (T := TX1) (N := 5) (n := 5) hts inX1 (hts (.instantiable RX1 5) (by decide +kernel))
  obtain ⟨c6, i6, h6⟩ := u_known (C := RX2) (T := TX2) (N := 7) (n := 7) hts inX2 (hts (.instantiable RX2 7) (by decide +kernel))
  obtain ⟨c7, i7, h7⟩ := u_known (C := RX3) (T := TX3) (N := 2) (n := 2) hts inX3 (hts (.instantiable RX3 2) (by decide +kernel))
  obtain ⟨c8, i8, h8⟩ := u_known (C := RX4) (T := TX4) (N := 3) (n := 3) hts inX4 (hts (.instantiable RX4 3) (by decide +kernel))
  obtain ⟨c9, i9, h9⟩ := u_known (C := RX5) (T := TX5) (N := 11) (n := 11) hts inX5 (hts (.instantiable RX5 11) (by decide +kernel))
  obtain ⟨c10, i10, h10⟩ := u_known (C := RX6) (T := TX6) (N := 36) (n := 36) hts inX6 (hts (.instantiable RX6 36) (by decide +kernel))
  obtain ⟨a0, g0, f0⟩ := w_arr (hts (.arrayClass .int) (by decide +kernel))
  obtain ⟨a1, g1, f1⟩ := w_arr (hts (.arrayClass .boolean) (by decide +kernel))
  obtain ⟨a2, g2, f2⟩ := w_arr (hts (.arrayClass .char) (by decide +kernel))
  obtain ⟨a3, g3, f3⟩ := w_arr (hts (.arrayClass .long) (by decide +kernel))
  obtain ⟨a4, g4, f4⟩ := w_arr (hts (.arrayClass .double) (by decide +kernel))
  obtain ⟨a5, g5, f5⟩ := w_arrO (hts (.arrayOver (.object "StageConsole$Channel")) (by decide +kernel))
  obtain ⟨a6, g6, f6⟩ := w_arrO (hts (.arrayOver (.object "java/lang/Object")) (by decide +kernel))
  refine ⟨(fun k => match k with | 0 => c0 | 1 => c1 | 2 => c2 | 3 => c3 | 4 => c4 | 5 => c5 | 6 => c6 | 7 => c7 | 8 => c8 | 9 => c9 | 10 => c10 | _ => mi, fun k => match k with | 0 => i0 | 1 => i1 | 2 => i2 | 3 => i3 | 4 => i4 | 5 => i5 | 6 => i6 | 7 => i7 | 8 => i8 | 9 => i9 | _ => i10), fun k => match k with | 0 => a0 | 1 => a1 | 2 => a2 | 3 => a3 | 4 => a4 | 5 => a5 | _ => a6, rfl, fun E0 => ⟨fun k q hq => ?_, fun k q hq => ?_⟩⟩
  · match k, hq with
    | 0, hq =>
      cases hq
      exact h0
    | 1, hq =>
      cases hq
      exact h1
    | 2, hq =>
      cases hq
      exact h2
    | 3, hq =>
      cases hq
      exact h3
    | 4, hq =>
      cases hq
      exact h4
    | 5, hq =>
      cases hq
      exact h5
    | 6, hq =>
      cases hq
      exact h6
    | 7, hq =>
      cases hq
      exact h7
    | 8, hq =>
      cases hq
      exact h8
    | 9, hq =>
      cases hq
      exact h9
    | 10, hq =>
      cases hq
      exact h10
    | k + 11, hq => exact absurd (List.getElem?_eq_some_iff.mp hq).1 (by show ¬ k + 11 < 11; omega)
  · match k, hq with
    | 0, hq =>
      cases hq
      exact ⟨g0, f0⟩
    | 1, hq =>
      cases hq
      exact ⟨g1, f1⟩
    | 2, hq =>
      cases hq
      exact ⟨g2, f2⟩
    | 3, hq =>
      cases hq
      exact ⟨g3, f3⟩
    | 4, hq =>
      cases hq
      exact ⟨g4, f4⟩
    | 5, hq =>
      cases hq
      exact ⟨g5, f5⟩
    | 6, hq =>
      cases hq
      exact ⟨g6, f6⟩
    | k + 7, hq => exact absurd (List.getElem?_eq_some_iff.mp hq).1 (by show ¬ k + 7 < 7; omega)
theorem w_Z (hts : ∀ w ∈ lw_tbl, w.before args s = true) (hgv : (Jvm.Cond.and given_1 narrow_1).before args s = true) {D : va_G} {a : Nat → ClassId} {mi : Nat} (hmi : va_Mi "[Ljava/lang/Object;" mi s) (hD : D.1 99 = mi) : ∃ E0 : Nat, cZ (gm D a E0) (fun q => s.heap.size ≤ q) s s.heap := by
  have hg := flat_of_before _ hgv
  have hA : ∀ q : Nat, q < s.heap.size → ¬ (fun q : Nat => s.heap.size ≤ q) q := fun q h => Nat.not_le.mpr h
  obtain ⟨E0, hE, hT⟩ := va_Tof (tm := .static "java/util/ArrayList" "DEFAULTCAPACITY_EMPTY_ELEMENTDATA" "[Ljava/lang/Object;") (ty := .object "java/lang/Object") (N := 0) (f := fun _ => .null) (A := fun q => s.heap.size ≤ q) (by decide) (hg _ (by decide +kernel)) (va_eqt (hg _ (by decide +kernel))) (fun j hj => absurd hj (Nat.not_lt_zero j)) hA
  subst hD
  exact ⟨E0, va_Zof (hts _ (by decide +kernel)) (hts _ (by decide +kernel)) hE hA, hT, vx_Zqof (hts _ (by decide +kernel)) (hts _ (by decide +kernel)) (hg _ (by decide +kernel)) hA, vx_Zqof (hts _ (by decide +kernel)) (hts _ (by decide +kernel)) (hg _ (by decide +kernel)) hA, fun q hq => w_str (hts _ (w_S1 q hq)) (hg _ (w_S2 q hq)), fun X hX => va_Nw.of rfl (hts _ (w_V1 X hX)), fun y hy => va_Nw.of rfl (hts _ (w_V2 y hy)), fun X hX Y hY n => va_Nc.of (hg _ (w_V3 X hX Y hY n)), va_Dc.of (hts _ (by decide +kernel)), hmi, va_AO.of (hts _ (by decide +kernel)), va_AO.of (hts _ (by decide +kernel)), fun X hX => va_Nw.of rfl (hts _ (w_V4 X hX)), va_Nw.of rfl (hts _ (by decide +kernel)), va_Nw.of rfl (hts _ (by decide +kernel))⟩
end K0
/-- the two alike at the start -/
theorem mI0_12 : ∀ c, c < 12 → mI0 12 c = -2 := by decide +kernel
theorem mI0_13 : ∀ c, c < 12 → mI0 13 c = -1 := by decide +kernel
theorem rr0 : RR (fun _ => 0) (fun _ => 0) (fun _ => 0) 0 S9 mI0 0 := by
  have k32 : chK (mI0 30 5) := chK_nI (q := 32) (by decide)
  have hch : HC mI0 := fun j _ => by
    show vp_nar .char (0 : Int32) = 0 ∧ vp_nar .boolean (0 : Int32) = 0
    decide
  refine ⟨⟨⟨fun j _ => ⟨Nat.le_refl 0, show 0 < 1000 by decide⟩, Nat.zero_le _, Nat.zero_le _, Nat.zero_le _, Nat.zero_le _⟩, Or.inl rfl, Or.inl rfl, Or.inl rfl, Or.inl rfl⟩, ⟨rfl, rfl, rfl, rfl⟩, ⟨rfl, rfl, rfl, rfl, ⟨0, by decide, rfl⟩, k32⟩, ⟨fun k hk => absurd hk (Nat.not_lt_zero k), fun i j _ hj => absurd hj (Nat.not_lt_zero j), hch⟩, fun c hc => Or.inl ⟨rfl, rfl, 0, by decide, rfl, rfl⟩, fun c hc => ⟨rfl, Or.inl rfl, (mI0_12 c hc).symm, fun y => absurd (by rw [mI0_12 c hc]; decide) y, (mI0_13 c hc).symm⟩, ⟨fun g hg => absurd hg (Nat.not_lt_zero g), fun g _ _ => ⟨rfl, rfl⟩⟩, fun e he => absurd he (Nat.not_lt_zero e), fun k hk => absurd hk (Nat.not_lt_zero k), rfl⟩
