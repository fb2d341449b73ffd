/-! what the start gives -/
theorem st_prim {U : State} {A : Array Value} {ty : FieldType} (h : (Cond.arrayClass ty).before A U = true) (h2 : ∀ C, ty ≠ .object C) : ∃ cA, ArrOfT U cA ty ∧ va_RA U cA ty := by
  obtain ⟨c, k, comp, h3, h4, h5⟩ := Cond.arrayClass_spec h
  refine ⟨c, fun N z => ⟨(fun k h => by cases h), k, h4, comp, h5⟩, ?_⟩
  cases ty with
  | object C => exact absurd rfl (h2 C)
  | _ => exact h3
theorem st_obj {U : State} {C : String} (h : va_AO C U) : ∃ cA, ArrOfT U cA (.object C) ∧ va_RA U cA (.object C) := by
  obtain ⟨comp, c, k, h1, h2, h3, h4, h5⟩ := Cond.arrayOver_spec h
  exact ⟨c, fun N z => ⟨(fun k h => by cases h), k, h3, comp, h4⟩, k, comp, h3, h4, h1, h5⟩
theorem st_arr {U : State} {t : FieldType} (h : tp_AO (.array t) U) : ∃ cA, ArrOfT U cA (.array t) ∧ va_RA U cA (.array t) := by
  obtain ⟨comp, c, k, h1, h3, h4, h5⟩ := Cond.arrayOver_specA h
  exact ⟨c, fun N z => ⟨(fun k h => by cases h), k, h3, comp, h4⟩, h5⟩
section ST
variable {s : State} {b : Nat}
theorem st_NX (hts : ∀ w ∈ lw_tbl, w.before #[Value.ref b] s = true) : tp_NX s := by
  have q : ∀ w ∈ lw_tbl, w.onTables = true → va_Nw w s := fun w h h2 => va_tabs h2 rfl (hts w h)
  exact ⟨⟨q _ (by decide +kernel) rfl, q _ (by decide +kernel) rfl, q _ (by decide +kernel) rfl, q _ (by decide +kernel) rfl, q _ (by decide +kernel) rfl⟩, va_AO.of (hts _ (by decide +kernel)), va_AO.of (hts _ (by decide +kernel)), hts (.arrayOver (.array .int)) (by decide +kernel)⟩
theorem st_N3 (hgv : (Jvm.Cond.and given_1 narrow_1).before #[Value.ref b] s = true) : tp_N3 s := by
  have hs := flat_of_before _ hgv
  exact ⟨va_Nc.of (hs _ (by decide +kernel)), va_Nc.of (hs _ (by decide +kernel)), va_Nc.of (hs _ (by decide +kernel))⟩
theorem st_X {w : WPar} (hts : ∀ w ∈ lw_tbl, w.before #[Value.ref b] s = true) (hgv : (Jvm.Cond.and given_1 narrow_1).before #[Value.ref b] s = true) (hA : ∀ a : Nat, a < s.heap.size → ¬ tp_A w s.heap.size a) : tp_X w s.heap.size s s.heap := by
  have hs := flat_of_before _ hgv
  have q : ∀ w ∈ lw_tbl, w.onTables = true → va_Nw w s := fun w h h2 => va_tabs h2 rfl (hts w h)
  refine ⟨vx_Zqof (hts (.laysStatic Bundle.tN "UNASSIGNED_STACK" Bundle.steD) (by decide +kernel)) (hts (.initialized Bundle.tN) (by decide +kernel)) (hs (.isRef (.static Bundle.tN "UNASSIGNED_STACK" Bundle.steD)) (by decide +kernel)) hA, vx_Zqof (hts (.laysStatic Bundle.tN "SUPPRESSED_SENTINEL" Bundle.listD) (by decide +kernel)) (hts (.initialized Bundle.tN) (by decide +kernel)) (hs (.isRef (.static Bundle.tN "SUPPRESSED_SENTINEL" Bundle.listD)) (by decide +kernel)) hA, fun cd => ?_, ⟨q _ (by decide +kernel) rfl, q _ (by decide +kernel) rfl, q _ (by decide +kernel) rfl⟩, fun x hx => ?_⟩
  · rcases cd with _ | _ | cd
    · exact q (.castable "java/lang/IndexOutOfBoundsException" "java/lang/IndexOutOfBoundsException") (by decide +kernel) rfl
    · exact q (.castable "java/lang/IllegalArgumentException" "java/lang/IllegalArgumentException") (by decide +kernel) rfl
    · exact q (.castable "java/lang/IllegalStateException" "java/lang/IllegalStateException") (by decide +kernel) rfl
  · have h1 : ∀ x ∈ tp_strs, Cond.stringRef RX8 x.1 x.2 ∈ lw_tbl := by decide +kernel
    have h2 : ∀ x ∈ tp_strs, Cond.exactly (.string RX8 x.1) "java/lang/String" ∈ flatC (Jvm.Cond.and given_1 narrow_1) := by decide +kernel
    obtain ⟨sa, c, cell, k, q1, -⟩ := Cond.exactly_spec (hs _ (h2 x hx))
    exact ⟨sa, vk_R.of (hts _ (h1 x hx)) q1⟩
theorem st_K (l : Launch) (hts : ∀ w ∈ lw_tbl, w.before #[Value.ref b] s = true) : ∃ w : WPar, w.2.1 = l ∧ tp_N w = 234 ∧ va_K (tp_D w) vwCl (tp_tys w) s := by
  have hNX := st_NX hts
  obtain ⟨c0, i0, k0⟩ := u_known (C := RX0) (T := TX0) (N := 4) (n := 4) hts inX0 (hts (.instantiable RX0 4) (by decide +kernel))
  obtain ⟨c1, i1, k1⟩ := u_known (C := RX1) (T := TX1) (N := 14) (n := 14) hts inX1 (hts (.instantiable RX1 14) (by decide +kernel))
  obtain ⟨c2, i2, k2⟩ := u_known (C := RX2) (T := TX2) (N := 4) (n := 4) hts inX2 (hts (.instantiable RX2 4) (by decide +kernel))
  obtain ⟨c3, i3, k3⟩ := u_known (C := RX3) (T := TX3) (N := 9) (n := 9) hts inX3 (hts (.instantiable RX3 9) (by decide +kernel))
  obtain ⟨c4, i4, k4⟩ := u_known (C := RX5) (T := TX5) (N := 5) (n := 5) hts inX5 (hts (.instantiable RX5 5) (by decide +kernel))
  obtain ⟨c5, i5, k5⟩ := u_known (C := RX6) (T := TX6) (N := 6) (n := 6) hts inX6 (hts (.instantiable RX6 6) (by decide +kernel))
  obtain ⟨c6, i6, k6⟩ := u_known (C := RX7) (T := TX7) (N := 7) (n := 7) hts inX7 (hts (.instantiable RX7 7) (by decide +kernel))
  obtain ⟨c7, i7, k7⟩ := u_known (C := RX8) (T := TX8) (N := 4) (n := 4) hts inX8 (hts (.instantiable RX8 4) (by decide +kernel))
  obtain ⟨t0, a0, r0⟩ := st_prim (ty := .int) (hts (.arrayClass .int) (by decide +kernel)) (fun _ h => by cases h)
  obtain ⟨t1, a1, r1⟩ := st_prim (ty := .boolean) (hts (.arrayClass .boolean) (by decide +kernel)) (fun _ h => by cases h)
  obtain ⟨t2, a2, r2⟩ := st_obj hNX.2.1
  obtain ⟨t3, a3, r3⟩ := st_obj hNX.2.2.1
  obtain ⟨t4, a4, r4⟩ := st_arr hNX.2.2.2
  refine ⟨((fun _ => 0), l, (fun k => match k with | 0 => t0 | 1 => t1 | 2 => t2 | 3 => t3 | _ => t4), (fun k => match k with | 0 => c0 | 1 => c1 | 2 => c2 | 3 => c3 | 4 => c4 | 5 => c5 | 6 => c6 | _ => c7), (fun k => match k with | 0 => i0 | 1 => i1 | 2 => i2 | 3 => i3 | 4 => i4 | 5 => i5 | 6 => i6 | _ => i7), 234), rfl, rfl, fun k q hq => ?_, fun k q hq => ?_⟩
  · match k, hq with
    | 0, hq => cases hq; exact k0
    | 1, hq => cases hq; exact k1
    | 2, hq => cases hq; exact k2
    | 3, hq => cases hq; exact k3
    | 4, hq => cases hq; exact k4
    | 5, hq => cases hq; exact k5
    | 6, hq => cases hq; exact k6
    | 7, hq => cases hq; exact k7
    | k + 8, hq => simp [vwCl] at hq
  · match k, hq with
    | 0, hq => cases hq; exact ⟨a0, r0⟩
    | 1, hq => cases hq; exact ⟨a1, r1⟩
    | 2, hq => cases hq; exact ⟨a2, r2⟩
    | 3, hq => cases hq; exact ⟨a3, r3⟩
    | 4, hq => cases hq; exact ⟨a4, r4⟩
    | k + 5, hq => simp [tp_tys] at hq
end ST
