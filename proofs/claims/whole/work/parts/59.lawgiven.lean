/-! what the law's entry gives -/
theorem tys_ok {s : State} {args : Array Value} {ty : FieldType} (h : (Cond.arrayClass ty).before args s = true) : ∃ cA, ArrOfT s cA ty ∧ s.vm.findClass ("[" ++ ty.toString) = some cA := by
  obtain ⟨cA, kA, comp, h1, h2, h3⟩ := Cond.arrayClass_spec h
  exact ⟨cA, fun n z => ⟨fun k h => (by cases h), kA, h2, comp, h3⟩, h1⟩
theorem tyo_ok {s : State} {args : Array Value} {C : String} (h : (Cond.arrayOver (.object C)).before args s = true) : ∃ cA, ArrOfT s cA (.object C) ∧ va_RA s cA (.object C) := by
  obtain ⟨comp, cA, kA, h1, -, h2, h3, h4⟩ := Cond.arrayOver_spec h
  exact ⟨cA, fun n z => ⟨fun k h => (by cases h), kA, h2, comp, h3⟩, kA, comp, h2, h3, h1, h4⟩
def nwF : List Cond := flatC (Jvm.Cond.and given_1 narrow_1)
theorem nw_N : ∀ i : Nat, i < 15 → tq_len.getD i 0 < 2 ^ 31 := by decide +kernel
theorem nw_ex : ∀ i : Nat, i < 15 → Cond.exactly (.string RX7 (tq_ix.getD i 0)) "java/lang/String" ∈ nwF := by decide +kernel
theorem nw_co : ∀ i : Nat, i < 15 → Cond.eq (.field (.string RX7 (tq_ix.getD i 0)) "java/lang/String" "coder" "B") (.int 0) ∈ nwF := by decide +kernel
theorem nw_ar : ∀ i : Nat, i < 15 → Cond.arrayOf (.field (.string RX7 (tq_ix.getD i 0)) "java/lang/String" "value" "[B") .byte ∈ nwF := by decide +kernel
theorem nw_le : ∀ i : Nat, i < 15 → Cond.eq (.length (.field (.string RX7 (tq_ix.getD i 0)) "java/lang/String" "value" "[B")) (.int (Int32.ofNat (tq_len.getD i 0))) ∈ nwF := by decide +kernel
theorem nw_el : ∀ i : Nat, i < 15 → ∀ j : Nat, j < tq_len.getD i 0 → Cond.eq (.elem (.field (.string RX7 (tq_ix.getD i 0)) "java/lang/String" "value" "[B") (.int (Int32.ofNat j))) (.int ((tq_byt.getD i []).getD j 0)) ∈ nwF := by decide +kernel
theorem nw_ne : ∀ i : Nat, i < 15 → ∀ j : Nat, j < 15 → i ≠ j → Cond.not (Cond.eq (.string RX7 (tq_ix.getD i 0)) (.string RX7 (tq_ix.getD j 0))) ∈ nwF ∨ Cond.not (Cond.eq (.string RX7 (tq_ix.getD j 0)) (.string RX7 (tq_ix.getD i 0))) ∈ nwF := by decide +kernel
theorem nw_tx : ∀ i : Nat, i < 15 → Cond.stringRef RX7 (tq_ix.getD i 0) (tq_tx.getD i "") ∈ lw_tbl := by decide +kernel
theorem nw_tq_most : ∀ j : Nat, j < 4 → Cond.eq (.elem (.static "LightMan" "MOST_OF_LAW" "[I") (.int (Int32.ofNat j))) (.int (tq_most j)) ∈ nwF := by decide +kernel
theorem nw_tq_most2 : Cond.arrayOf (.static "LightMan" "MOST_OF_LAW" "[I") .int ∈ nwF ∧ Cond.eq (.length (.static "LightMan" "MOST_OF_LAW" "[I")) (.int (Int32.ofNat 4)) ∈ nwF ∧ Cond.laysStatic "LightMan" "MOST_OF_LAW" "[I" ∈ lw_tbl := by decide +kernel
theorem nw_tq_first : ∀ j : Nat, j < 4 → Cond.eq (.elem (.static "LightMan" "LAW_AT_FIRST" "[I") (.int (Int32.ofNat j))) (.int (tq_first j)) ∈ nwF := by decide +kernel
theorem nw_tq_first2 : Cond.arrayOf (.static "LightMan" "LAW_AT_FIRST" "[I") .int ∈ nwF ∧ Cond.eq (.length (.static "LightMan" "LAW_AT_FIRST" "[I")) (.int (Int32.ofNat 4)) ∈ nwF ∧ Cond.laysStatic "LightMan" "LAW_AT_FIRST" "[I" ∈ lw_tbl := by decide +kernel
theorem nw_tq_taken : ∀ j : Nat, j < 6 → Cond.eq (.elem (.static "LightMan" "TAKEN_FOR" "[I") (.int (Int32.ofNat j))) (.int (tq_taken j)) ∈ nwF := by decide +kernel
theorem nw_tq_taken2 : Cond.arrayOf (.static "LightMan" "TAKEN_FOR" "[I") .int ∈ nwF ∧ Cond.eq (.length (.static "LightMan" "TAKEN_FOR" "[I")) (.int (Int32.ofNat 6)) ∈ nwF ∧ Cond.laysStatic "LightMan" "TAKEN_FOR" "[I" ∈ lw_tbl := by decide +kernel
theorem nw_cs : Cond.eq (.static "java/lang/String" "COMPACT_STRINGS" "Z") (.int 1) ∈ nwF ∧ Cond.laysStatic "java/lang/String" "COMPACT_STRINGS" "Z" ∈ lw_tbl ∧ Cond.initialized "java/lang/String" ∈ lw_tbl ∧ Cond.initialized "LightMan" ∈ lw_tbl := by decide +kernel
theorem nw_si : Cond.isRef (.static "jdk/internal/util/Preconditions" "SIOOBE_FORMATTER" "Ljava/util/function/BiFunction;") ∈ nwF ∧ Cond.laysStatic "jdk/internal/util/Preconditions" "SIOOBE_FORMATTER" "Ljava/util/function/BiFunction;" ∈ lw_tbl ∧ Cond.initialized "jdk/internal/util/Preconditions" ∈ lw_tbl := by decide +kernel
def nwN : List Cond := [.methodLinkNest RX8 57 yX10_restOf "LightMan", .methodLinkNest RX8 79 yX10_heldFaith "LightMan", .fieldLinkNest RX7 93 "LightMan" "MOST_OF_LAW" "[I" "LightMan", .fieldLinkNest RX8 44 "LightMan" "LAW_AT_FIRST" "[I" "LightMan"]
theorem nwN_in : ∀ w ∈ nwN, w ∈ lw_tbl := by decide +kernel
theorem xw_in : ∀ w ∈ xw, w ∈ lw_tbl := by decide +kernel
theorem nestI_in : ∀ w ∈ nestI, w ∈ lw_tbl := by decide +kernel
theorem castI_in : ∀ w ∈ castI, w ∈ lw_tbl := by decide +kernel
theorem nw_ac : Cond.arrayClass .int ∈ lw_tbl ∧ Cond.arrayClass .byte ∈ lw_tbl ∧ Cond.arrayClass .char ∈ lw_tbl ∧ Cond.arrayOver (.object RX4) ∈ lw_tbl ∧ Cond.arrayOver (.object RX3) ∈ lw_tbl := by decide +kernel
theorem nw_in : Cond.instantiable RX0 5 ∈ lw_tbl ∧ Cond.instantiable RX1 0 ∈ lw_tbl ∧ Cond.instantiable RX2 0 ∈ lw_tbl ∧ Cond.instantiable RX3 2 ∈ lw_tbl ∧ Cond.instantiable RX4 0 ∈ lw_tbl ∧ Cond.instantiable RX5 0 ∈ lw_tbl ∧ Cond.instantiable RX6 0 ∈ lw_tbl ∧ Cond.instantiable RX7 5 ∈ lw_tbl ∧ Cond.instantiable RX8 11 ∈ lw_tbl ∧ Cond.instantiable RX9 0 ∈ lw_tbl ∧ Cond.instantiable RX10 13 ∈ lw_tbl ∧ Cond.instantiable RX11 24 ∈ lw_tbl := by decide +kernel
set_option maxHeartbeats 4000000 in
set_option maxRecDepth 100000 in
theorem law_at {p : Program} {s : State} {m : MethodId} {meth : Method} {c : Code} {b L : Nat} {xs : Nat → Int32} (hL : L ≤ 2560) (C0 : lw_At p s m meth c b L xs) : ∃ g : GG, LC p s m meth c g b L xs := by
  obtain ⟨hx, hb, hr, hml, hown, hts, hX, hbl, hlocks, hgv⟩ := C0
  have hq : ∀ w ∈ nwF, w.before #[Value.ref b] s = true := flat_of_before _ hgv
  have hA : ∀ a : Nat, a < s.heap.size → ¬ (fun q : Nat => s.heap.size ≤ q) a := fun a h => Nat.not_le.mpr h
  obtain ⟨c0, i0, k0⟩ := u_known (C := RX0) (T := TX0) (N := 5) (n := 5) hts lwi_wsX00 (hts _ nw_in.1)
  obtain ⟨c1, i1, k1⟩ := u_known (C := RX1) (T := TX1) (N := 0) (n := 0) hts lwi_wsX10 (hts _ nw_in.2.1)
  obtain ⟨c2, i2, k2⟩ := u_known (C := RX2) (T := TX2) (N := 0) (n := 0) hts lwi_wsX20 (hts _ nw_in.2.2.1)
  obtain ⟨c3, i3, k3⟩ := u_known (C := RX3) (T := TX3) (N := 2) (n := 2) hts lwi_wsX30 (hts _ nw_in.2.2.2.1)
  obtain ⟨c4, i4, k4⟩ := u_known (C := RX4) (T := TX4) (N := 0) (n := 0) hts lwi_wsX40 (hts _ nw_in.2.2.2.2.1)
  obtain ⟨c5, i5, k5⟩ := u_known (C := RX5) (T := TX5) (N := 0) (n := 0) hts lwi_wsX50 (hts _ nw_in.2.2.2.2.2.1)
  obtain ⟨c6, i6, k6⟩ := u_known (C := RX6) (T := TX6) (N := 0) (n := 0) hts lwi_wsX60 (hts _ nw_in.2.2.2.2.2.2.1)
  obtain ⟨c7, i7, k7⟩ := u_known (C := RX7) (T := TX7) (N := 5) (n := 5) hts lwi_wsX70 (hts _ nw_in.2.2.2.2.2.2.2.1)
  obtain ⟨c8, i8, k8⟩ := u_known (C := RX8) (T := TX8) (N := 11) (n := 11) hts lwi_wsX80 (hts _ nw_in.2.2.2.2.2.2.2.2.1)
  obtain ⟨c9, i9, k9⟩ := u_known (C := RX9) (T := TX9) (N := 0) (n := 0) hts lwi_wsX90 (hts _ nw_in.2.2.2.2.2.2.2.2.2.1)
  obtain ⟨c10, i10, k10⟩ := u_known (C := RX10) (T := TX10) (N := 13) (n := 13) hts lwi_wsX100 (hts _ nw_in.2.2.2.2.2.2.2.2.2.2.1)
  obtain ⟨c11, i11, k11⟩ := u_known (C := RX11) (T := TX11) (N := 24) (n := 24) hts lwi_wsX110 (hts _ nw_in.2.2.2.2.2.2.2.2.2.2.2)
  have hKc : ∀ (k : Nat) (q : vw_C), vwCl[k]? = some q → u_Kn s q.1 q.2.1 q.2.2 ([c0, c1, c2, c3, c4, c5, c6, c7, c8, c9, c10, c11].getD k c0) ([i0, i1, i2, i3, i4, i5, i6, i7, i8, i9, i10, i11].getD k i0) := by
    intro k q hq
    match k, hq with
    | 0, hq => cases hq; exact k0
    | 1, hq => cases hq; exact k1
    | 2, hq => cases hq; exact k2
    | 3, hq => cases hq; exact k3
    | 4, hq => cases hq; exact k4
    | 5, hq => cases hq; exact k5
    | 6, hq => cases hq; exact k6
    | 7, hq => cases hq; exact k7
    | 8, hq => cases hq; exact k8
    | 9, hq => cases hq; exact k9
    | 10, hq => cases hq; exact k10
    | 11, hq => cases hq; exact k11
    | k + 12, hq => simp [vwCl] at hq
  obtain ⟨cI, aI, fI⟩ := tys_ok (hts _ nw_ac.1)
  obtain ⟨cB, aB, fB⟩ := tys_ok (hts _ nw_ac.2.1)
  obtain ⟨cC, aC, fC⟩ := tys_ok (hts _ nw_ac.2.2.1)
  obtain ⟨cK, aK, fK⟩ := tyo_ok (hts _ nw_ac.2.2.2.1)
  obtain ⟨cT, aT, fT⟩ := tyo_ok (hts _ nw_ac.2.2.2.2)
  obtain ⟨t0, e0, T0⟩ := va_Tof (tm := .static "LightMan" "MOST_OF_LAW" "[I") (ty := .int) (N := 4) (f := fun j => .int (tq_most j)) (A := fun q : Nat => s.heap.size ≤ q) (by decide) (hq _ nw_tq_most2.1) (va_eqt (hq _ nw_tq_most2.2.1)) (fun j hj => va_eqt (hq _ (nw_tq_most j hj))) hA
  obtain ⟨t1, e1, T1⟩ := va_Tof (tm := .static "LightMan" "LAW_AT_FIRST" "[I") (ty := .int) (N := 4) (f := fun j => .int (tq_first j)) (A := fun q : Nat => s.heap.size ≤ q) (by decide) (hq _ nw_tq_first2.1) (va_eqt (hq _ nw_tq_first2.2.1)) (fun j hj => va_eqt (hq _ (nw_tq_first j hj))) hA
  obtain ⟨t2, e2, T2⟩ := va_Tof (tm := .static "LightMan" "TAKEN_FOR" "[I") (ty := .int) (N := 6) (f := fun j => .int (tq_taken j)) (A := fun q : Nat => s.heap.size ≤ q) (by decide) (hq _ nw_tq_taken2.1) (va_eqt (hq _ nw_tq_taken2.2.1)) (fun j hj => va_eqt (hq _ (nw_tq_taken j hj))) hA
  obtain ⟨adK, adV, hSs, hSe⟩ := vk_Sof (N := 15) (tm := fun i => .string RX7 (tq_ix.getD i 0)) (len := tq_len) (byt := tq_byt) (A := fun q : Nat => s.heap.size ≤ q) nw_N (fun i hi => hq _ (nw_ex i hi)) (fun i hi => hq _ (nw_co i hi)) (fun i hi => hq _ (nw_ar i hi)) (fun i hi => hq _ (nw_le i hi)) (fun i hi j hj => hq _ (nw_el i hi j hj)) (fun i j hi hj hne => (nw_ne i hi j hj hne).imp (fun h => hq _ h) (fun h => hq _ h)) hA
  refine ⟨((fun k => [c0, c1, c2, c3, c4, c5, c6, c7, c8, c9, c10, c11].getD k c0, fun k => [i0, i1, i2, i3, i4, i5, i6, i7, i8, i9, i10, i11].getD k i0), cI, cB, cC, cK, cT, (t0, t1, t2), adK, adV), ⟨hx, hb, hml, hown, fun w h => hts w (wsL_law_in w h)⟩, ?_, ?_, ?_, hX, hbl, hL⟩
  · refine ⟨⟨hKc, fun k q h => ?_⟩, ⟨va_Nw.of rfl (hts _ (nwN_in _ (List.mem_of_getElem? (i := 0) rfl))), va_Nw.of rfl (hts _ (nwN_in _ (List.mem_of_getElem? (i := 1) rfl)))⟩, ⟨va_Nw.of rfl (hts _ (nwN_in _ (List.mem_of_getElem? (i := 2) rfl))), va_Nw.of rfl (hts _ (nwN_in _ (List.mem_of_getElem? (i := 3) rfl)))⟩, fun i hi => vk_R.of (hts _ (nw_tx i hi)) (hSe i hi), fun w h => va_Nw.of (xw_tab w h) (hts w (xw_in w h))⟩
    match k, h with
    | 0, h => cases h; exact ⟨aI, fI⟩
    | 1, h => cases h; exact ⟨aB, fB⟩
    | 2, h => cases h; exact ⟨aC, fC⟩
    | 3, h => cases h; exact ⟨aK, fK⟩
    | 4, h => cases h; exact ⟨aT, fT⟩
    | k + 5, h => simp [gy] at h
  · exact ⟨fun w h => va_Nw.of (nestI_tab w h) (hts w (nestI_in w h)), fun w h => va_Nw.of (castI_tab w h) (hts w (castI_in w h)), va_AO.of (hts _ nw_ac.2.2.2.1), va_AO.of (hts _ nw_ac.2.2.2.2)⟩
  · exact ⟨⟨va_Zof (hts _ nw_tq_most2.2.2) (hts _ nw_cs.2.2.2) e0 hA, T0⟩, ⟨va_Zof (hts _ nw_tq_first2.2.2) (hts _ nw_cs.2.2.2) e1 hA, T1⟩, ⟨va_Zof (hts _ nw_tq_taken2.2.2) (hts _ nw_cs.2.2.2) e2 hA, T2⟩, va_Zof (hts _ nw_cs.2.1) (hts _ nw_cs.2.2.1) (va_eqt (hq _ nw_cs.1)) hA, hSs, va_Zqof (hts _ nw_si.2.1) (hts _ nw_si.2.2) (hq _ nw_si.1) hA⟩
