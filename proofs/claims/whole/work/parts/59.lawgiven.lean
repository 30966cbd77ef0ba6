/-! what the law's entry gives -/
theorem tys_ok {s : State} {args : Array Value} {ty : FieldType} (h : (Cond.arrayClass ty).before args s = true) : ∃ cA, ArrOfT s cA ty ∧ s.vm.findClass ("[" ++ ty.toString) = some cA := by
  obtain ⟨cA, kA, comp, h1, h2, h3⟩ := Cond.arrayClass_spec h
  exact ⟨cA, fun n z => ⟨fun k h => (by cases h), kA, h2, comp, h3⟩, h1⟩
theorem tyo_ok {s : State} {args : Array Value} {C : String} (h : (Cond.arrayOver (.object C)).before args s = true) : ∃ cA, ArrOfT s cA (.object C) ∧ va_RA s cA (.object C) := by
  obtain ⟨comp, cA, kA, h1, -, h2, h3, h4⟩ := Cond.arrayOver_spec h
  exact ⟨cA, fun n z => ⟨fun k h => (by cases h), kA, h2, comp, h3⟩, kA, comp, h2, h3, h1, h4⟩
def nwF : List Cond := flatC (Jvm.Cond.and given_1 narrow_1)
def pkd : List Cond → List Nat → List Cond
  | _, [] => []
  | big, d :: ds => match big.drop d with
    | [] => []
    | w :: r => w :: pkd r ds
theorem pkd_in : ∀ (ds : List Nat) (big : List Cond) (w : Cond), w ∈ pkd big ds → w ∈ big
  | [], big, w, h => by cases h
  | d :: ds, big, w, h => by
    unfold pkd at h
    cases hd : big.drop d with
    | nil => rw [hd] at h; cases h
    | cons x r =>
      rw [hd] at h
      have hs : ∀ z, z ∈ x :: r → z ∈ big := fun z hz => List.mem_of_mem_drop (by rw [hd]; exact hz)
      rcases List.mem_cons.mp h with q | q
      · rw [q]; exact hs x List.mem_cons_self
      · exact hs w (List.mem_cons_of_mem _ (pkd_in ds r w q))
theorem nwp {ws : List Cond} (ds : List Nat) (hp : ws = pkd nwF ds) : ∀ w ∈ ws, w ∈ nwF := fun w h => pkd_in ds nwF w (by rw [← hp]; exact h)
theorem nw_N : ∀ i : Nat, i < 15 → tq_len.getD i 0 < 2 ^ 31 := by decide +kernel
set_option maxRecDepth 100000 in
theorem nw_ex : ∀ i : Nat, i < 15 → Cond.exactly (.string RX7 (tq_ix.getD i 0)) "java/lang/String" ∈ nwF := fun i hi => nwp (ws := ([0, 1, 2, 3, 4, 5, 12, 14, 6, 13, 7, 8, 9, 10, 11] : List Nat).map (fun i => Cond.exactly (.string RX7 (tq_ix.getD i 0)) "java/lang/String")) [32, 7, 10, 12, 12, 12, 13, 11, 15, 14, 14, 17, 17, 20, 20] rfl _ (List.mem_map.mpr ⟨i, (by decide : ∀ i : Nat, i < 15 → i ∈ ([0, 1, 2, 3, 4, 5, 12, 14, 6, 13, 7, 8, 9, 10, 11] : List Nat)) i hi, rfl⟩)
set_option maxRecDepth 100000 in
theorem nw_co : ∀ i : Nat, i < 15 → Cond.eq (.field (.string RX7 (tq_ix.getD i 0)) "java/lang/String" "coder" "B") (.int 0) ∈ nwF := fun i hi => nwp (ws := ([0, 1, 2, 3, 4, 5, 12, 14, 6, 13, 7, 8, 9, 10, 11] : List Nat).map (fun i => Cond.eq (.field (.string RX7 (tq_ix.getD i 0)) "java/lang/String" "coder" "B") (.int 0))) [33, 7, 10, 12, 12, 12, 13, 11, 15, 14, 14, 17, 17, 20, 20] rfl _ (List.mem_map.mpr ⟨i, (by decide : ∀ i : Nat, i < 15 → i ∈ ([0, 1, 2, 3, 4, 5, 12, 14, 6, 13, 7, 8, 9, 10, 11] : List Nat)) i hi, rfl⟩)
set_option maxRecDepth 100000 in
theorem nw_ar : ∀ i : Nat, i < 15 → Cond.arrayOf (.field (.string RX7 (tq_ix.getD i 0)) "java/lang/String" "value" "[B") .byte ∈ nwF := fun i hi => nwp (ws := ([0, 1, 2, 3, 4, 5, 12, 14, 6, 13, 7, 8, 9, 10, 11] : List Nat).map (fun i => Cond.arrayOf (.field (.string RX7 (tq_ix.getD i 0)) "java/lang/String" "value" "[B") .byte)) [34, 7, 10, 12, 12, 12, 13, 11, 15, 14, 14, 17, 17, 20, 20] rfl _ (List.mem_map.mpr ⟨i, (by decide : ∀ i : Nat, i < 15 → i ∈ ([0, 1, 2, 3, 4, 5, 12, 14, 6, 13, 7, 8, 9, 10, 11] : List Nat)) i hi, rfl⟩)
set_option maxRecDepth 100000 in
theorem nw_le : ∀ i : Nat, i < 15 → Cond.eq (.length (.field (.string RX7 (tq_ix.getD i 0)) "java/lang/String" "value" "[B")) (.int (Int32.ofNat (tq_len.getD i 0))) ∈ nwF := fun i hi => nwp (ws := ([0, 1, 2, 3, 4, 5, 12, 14, 6, 13, 7, 8, 9, 10, 11] : List Nat).map (fun i => Cond.eq (.length (.field (.string RX7 (tq_ix.getD i 0)) "java/lang/String" "value" "[B")) (.int (Int32.ofNat (tq_len.getD i 0))))) [35, 7, 10, 12, 12, 12, 13, 11, 15, 14, 14, 17, 17, 20, 20] rfl _ (List.mem_map.mpr ⟨i, (by decide : ∀ i : Nat, i < 15 → i ∈ ([0, 1, 2, 3, 4, 5, 12, 14, 6, 13, 7, 8, 9, 10, 11] : List Nat)) i hi, rfl⟩)
def nwE : List (Nat × Nat) := [(0, 0), (0, 1), (0, 2), (0, 3), (1, 0), (1, 1), (1, 2), (1, 3), (1, 4), (1, 5), (2, 0), (2, 1), (2, 2), (2, 3), (2, 4), (2, 5), (2, 6), (3, 0), (3, 1), (3, 2), (3, 3), (3, 4), (3, 5), (4, 0), (4, 1), (4, 2), (4, 3), (4, 4), (5, 0), (5, 1), (5, 2), (5, 3), (5, 4), (12, 0), (12, 1), (14, 0), (14, 1), (14, 2), (14, 3), (14, 4), (6, 0), (6, 1), (6, 2), (13, 0), (13, 1), (7, 0), (7, 1), (7, 2), (7, 3), (8, 0), (8, 1), (8, 2), (9, 0), (9, 1), (9, 2), (9, 3), (9, 4), (10, 0), (10, 1), (10, 2), (10, 3), (11, 0), (11, 1), (11, 2), (11, 3)]
theorem nwE_all : ∀ i : Nat, i < 15 → ∀ j : Nat, j < tq_len.getD i 0 → (i, j) ∈ nwE := by decide +kernel
set_option maxRecDepth 100000 in
theorem nw_el : ∀ i : Nat, i < 15 → ∀ j : Nat, j < tq_len.getD i 0 → Cond.eq (.elem (.field (.string RX7 (tq_ix.getD i 0)) "java/lang/String" "value" "[B") (.int (Int32.ofNat j))) (.int ((tq_byt.getD i []).getD j 0)) ∈ nwF := fun i hi j hj => nwp (ws := nwE.map (fun q => Cond.eq (.elem (.field (.string RX7 (tq_ix.getD q.1 0)) "java/lang/String" "value" "[B") (.int (Int32.ofNat q.2))) (.int ((tq_byt.getD q.1 []).getD q.2 0)))) [36, 0, 0, 0, 4, 0, 0, 0, 0, 0, 5, 0, 0, 0, 0, 0, 0, 6, 0, 0, 0, 0, 0, 7, 0, 0, 0, 0, 8, 0, 0, 0, 0, 9, 0, 10, 0, 0, 0, 0, 11, 0, 0, 12, 0, 13, 0, 0, 0, 14, 0, 0, 15, 0, 0, 0, 0, 16, 0, 0, 0, 17, 0, 0, 0] rfl _ (List.mem_map.mpr ⟨(i, j), nwE_all i hi j hj, rfl⟩)
def nwD : List (Nat × Nat) := [(0, 1), (0, 2), (1, 2), (0, 3), (1, 3), (2, 3), (0, 4), (1, 4), (2, 4), (3, 4), (0, 5), (1, 5), (2, 5), (3, 5), (4, 5), (0, 12), (1, 12), (2, 12), (3, 12), (4, 12), (5, 12), (0, 14), (1, 14), (2, 14), (3, 14), (4, 14), (5, 14), (12, 14), (0, 6), (1, 6), (2, 6), (3, 6), (4, 6), (5, 6), (12, 6), (14, 6), (0, 13), (1, 13), (2, 13), (3, 13), (4, 13), (5, 13), (12, 13), (14, 13), (6, 13), (0, 7), (1, 7), (2, 7), (3, 7), (4, 7), (5, 7), (12, 7), (14, 7), (6, 7), (13, 7), (0, 8), (1, 8), (2, 8), (3, 8), (4, 8), (5, 8), (12, 8), (14, 8), (6, 8), (13, 8), (7, 8), (0, 9), (1, 9), (2, 9), (3, 9), (4, 9), (5, 9), (12, 9), (14, 9), (6, 9), (13, 9), (7, 9), (8, 9), (0, 10), (1, 10), (2, 10), (3, 10), (4, 10), (5, 10), (12, 10), (14, 10), (6, 10), (13, 10), (7, 10), (8, 10), (9, 10), (0, 11), (1, 11), (2, 11), (3, 11), (4, 11), (5, 11), (12, 11), (14, 11), (6, 11), (13, 11), (7, 11), (8, 11), (9, 11), (10, 11)]
theorem nwD_all : ∀ i : Nat, i < 15 → ∀ j : Nat, j < 15 → i = j ∨ (i, j) ∈ nwD ∨ (j, i) ∈ nwD := by decide +kernel
set_option maxRecDepth 100000 in
theorem nwD_in : ∀ q, q ∈ nwD → Cond.not (Cond.eq (.string RX7 (tq_ix.getD q.1 0)) (.string RX7 (tq_ix.getD q.2 0))) ∈ nwF := fun q h => nwp (ws := nwD.map (fun q => Cond.not (Cond.eq (.string RX7 (tq_ix.getD q.1 0)) (.string RX7 (tq_ix.getD q.2 0))))) [50, 11, 0, 10, 0, 0, 9, 0, 0, 0, 9, 0, 0, 0, 0, 6, 0, 0, 0, 0, 0, 9, 0, 0, 0, 0, 0, 0, 7, 0, 0, 0, 0, 0, 0, 0, 6, 0, 0, 0, 0, 0, 0, 0, 0, 8, 0, 0, 0, 0, 0, 0, 0, 0, 0, 7, 0, 0, 0, 0, 0, 0, 0, 0, 0, 0, 9, 0, 0, 0, 0, 0, 0, 0, 0, 0, 0, 0, 8, 0, 0, 0, 0, 0, 0, 0, 0, 0, 0, 0, 0, 8, 0, 0, 0, 0, 0, 0, 0, 0, 0, 0, 0, 0, 0] rfl _ (List.mem_map.mpr ⟨q, h, rfl⟩)
theorem nw_ne : ∀ i : Nat, i < 15 → ∀ j : Nat, j < 15 → i ≠ j → Cond.not (Cond.eq (.string RX7 (tq_ix.getD i 0)) (.string RX7 (tq_ix.getD j 0))) ∈ nwF ∨ Cond.not (Cond.eq (.string RX7 (tq_ix.getD j 0)) (.string RX7 (tq_ix.getD i 0))) ∈ nwF := fun i hi j hj h => ((nwD_all i hi j hj).resolve_left h).imp (nwD_in (i, j)) (nwD_in (j, i))
set_option maxRecDepth 100000 in
theorem nw_tx : ∀ i : Nat, i < 15 → Cond.stringRef RX7 (tq_ix.getD i 0) (tq_tx.getD i "") ∈ lw_tbl := fun i hi => lwt2 ((List.range 15).map (fun i => Cond.stringRef RX7 (tq_ix.getD i 0) (tq_tx.getD i ""))) [(2, 40), (2, 93), (2, 94), (2, 95), (2, 96), (2, 97), (2, 116), (2, 122), (2, 127), (2, 128), (2, 129), (2, 130), (2, 102), (2, 121), (2, 107)] rfl _ (List.mem_map.mpr ⟨i, List.mem_range.mpr hi, rfl⟩)
theorem nw_tq_most : ∀ j : Nat, j < 4 → Cond.eq (.elem (.static "LightMan" "MOST_OF_LAW" "[I") (.int (Int32.ofNat j))) (.int (tq_most j)) ∈ nwF := fun j hj => nwp (ws := (List.range 4).map (fun j => Cond.eq (.elem (.static "LightMan" "MOST_OF_LAW" "[I") (.int (Int32.ofNat j))) (.int (tq_most j)))) [19, 0, 0, 0] rfl _ (List.mem_map.mpr ⟨j, List.mem_range.mpr hj, rfl⟩)
theorem nw_tq_most2 : Cond.arrayOf (.static "LightMan" "MOST_OF_LAW" "[I") .int ∈ nwF ∧ Cond.eq (.length (.static "LightMan" "MOST_OF_LAW" "[I")) (.int (Int32.ofNat 4)) ∈ nwF ∧ Cond.laysStatic "LightMan" "MOST_OF_LAW" "[I" ∈ lw_tbl := ⟨nwp (ws := [Cond.arrayOf (.static "LightMan" "MOST_OF_LAW" "[I") .int]) [17] rfl _ List.mem_cons_self, nwp (ws := [Cond.eq (.length (.static "LightMan" "MOST_OF_LAW" "[I")) (.int (Int32.ofNat 4))]) [18] rfl _ List.mem_cons_self, lwt2 [Cond.laysStatic "LightMan" "MOST_OF_LAW" "[I"] [(2, 136)] rfl _ List.mem_cons_self⟩
theorem nw_tq_first : ∀ j : Nat, j < 4 → Cond.eq (.elem (.static "LightMan" "LAW_AT_FIRST" "[I") (.int (Int32.ofNat j))) (.int (tq_first j)) ∈ nwF := fun j hj => nwp (ws := (List.range 4).map (fun j => Cond.eq (.elem (.static "LightMan" "LAW_AT_FIRST" "[I") (.int (Int32.ofNat j))) (.int (tq_first j)))) [7, 0, 0, 0] rfl _ (List.mem_map.mpr ⟨j, List.mem_range.mpr hj, rfl⟩)
theorem nw_tq_first2 : Cond.arrayOf (.static "LightMan" "LAW_AT_FIRST" "[I") .int ∈ nwF ∧ Cond.eq (.length (.static "LightMan" "LAW_AT_FIRST" "[I")) (.int (Int32.ofNat 4)) ∈ nwF ∧ Cond.laysStatic "LightMan" "LAW_AT_FIRST" "[I" ∈ lw_tbl := ⟨nwp (ws := [Cond.arrayOf (.static "LightMan" "LAW_AT_FIRST" "[I") .int]) [5] rfl _ List.mem_cons_self, nwp (ws := [Cond.eq (.length (.static "LightMan" "LAW_AT_FIRST" "[I")) (.int (Int32.ofNat 4))]) [6] rfl _ List.mem_cons_self, lwt2 [Cond.laysStatic "LightMan" "LAW_AT_FIRST" "[I"] [(1, 81)] rfl _ List.mem_cons_self⟩
theorem nw_tq_taken : ∀ j : Nat, j < 6 → Cond.eq (.elem (.static "LightMan" "TAKEN_FOR" "[I") (.int (Int32.ofNat j))) (.int (tq_taken j)) ∈ nwF := fun j hj => nwp (ws := (List.range 6).map (fun j => Cond.eq (.elem (.static "LightMan" "TAKEN_FOR" "[I") (.int (Int32.ofNat j))) (.int (tq_taken j)))) [26, 0, 0, 0, 0, 0] rfl _ (List.mem_map.mpr ⟨j, List.mem_range.mpr hj, rfl⟩)
theorem nw_tq_taken2 : Cond.arrayOf (.static "LightMan" "TAKEN_FOR" "[I") .int ∈ nwF ∧ Cond.eq (.length (.static "LightMan" "TAKEN_FOR" "[I")) (.int (Int32.ofNat 6)) ∈ nwF ∧ Cond.laysStatic "LightMan" "TAKEN_FOR" "[I" ∈ lw_tbl := ⟨nwp (ws := [Cond.arrayOf (.static "LightMan" "TAKEN_FOR" "[I") .int]) [24] rfl _ List.mem_cons_self, nwp (ws := [Cond.eq (.length (.static "LightMan" "TAKEN_FOR" "[I")) (.int (Int32.ofNat 6))]) [25] rfl _ List.mem_cons_self, lwt2 [Cond.laysStatic "LightMan" "TAKEN_FOR" "[I"] [(4, 81)] rfl _ List.mem_cons_self⟩
theorem nw_cs : Cond.eq (.static "java/lang/String" "COMPACT_STRINGS" "Z") (.int 1) ∈ nwF ∧ Cond.laysStatic "java/lang/String" "COMPACT_STRINGS" "Z" ∈ lw_tbl ∧ Cond.initialized "java/lang/String" ∈ lw_tbl ∧ Cond.initialized "LightMan" ∈ lw_tbl := ⟨nwp (ws := [Cond.eq (.static "java/lang/String" "COMPACT_STRINGS" "Z") (.int 1)]) [11] rfl _ List.mem_cons_self, lwt2 [Cond.laysStatic "java/lang/String" "COMPACT_STRINGS" "Z"] [(2, 54)] rfl _ List.mem_cons_self, lwt2 [Cond.initialized "java/lang/String"] [(1, 12)] rfl _ List.mem_cons_self, lwt2 [Cond.initialized "LightMan"] [(1, 1)] rfl _ List.mem_cons_self⟩
theorem nw_si : Cond.isRef (.static "jdk/internal/util/Preconditions" "SIOOBE_FORMATTER" "Ljava/util/function/BiFunction;") ∈ nwF ∧ Cond.laysStatic "jdk/internal/util/Preconditions" "SIOOBE_FORMATTER" "Ljava/util/function/BiFunction;" ∈ lw_tbl ∧ Cond.initialized "jdk/internal/util/Preconditions" ∈ lw_tbl := ⟨nwp (ws := [Cond.isRef (.static "jdk/internal/util/Preconditions" "SIOOBE_FORMATTER" "Ljava/util/function/BiFunction;")]) [12] rfl _ List.mem_cons_self, lwt2 [Cond.laysStatic "jdk/internal/util/Preconditions" "SIOOBE_FORMATTER" "Ljava/util/function/BiFunction;"] [(2, 70)] rfl _ List.mem_cons_self, lwt2 [Cond.initialized "jdk/internal/util/Preconditions"] [(1, 14)] rfl _ List.mem_cons_self⟩
def nwN : List Cond := [.methodLinkNest RX8 57 yX10_restOf "LightMan", .methodLinkNest RX8 79 yX10_heldFaith "LightMan", .fieldLinkNest RX7 93 "LightMan" "MOST_OF_LAW" "[I" "LightMan", .fieldLinkNest RX8 44 "LightMan" "LAW_AT_FIRST" "[I" "LightMan"]
set_option maxRecDepth 100000 in
theorem nwN_in : ∀ w ∈ nwN, w ∈ lw_tbl := lwt2 nwN [(2, 193), (3, 90), (2, 135), (1, 80)] rfl
set_option maxRecDepth 100000 in
theorem xw_in : ∀ w ∈ xw, w ∈ lw_tbl := fun w h => (List.mem_append.mp h).elim (fun h => lwt2 _ [(3, 61), (3, 62), (4, 121), (4, 122), (4, 99), (4, 100), (4, 143), (4, 144), (1, 62), (1, 55), (1, 48), (1, 41), (3, 42), (4, 108), (4, 87), (4, 128), (1, 2)] rfl w h) (fun h => (List.mem_append.mp h).elim (fun h => lwt2 wsX4_pace [(3, 64)] rfl w h) (fun h => (List.mem_append.mp h).elim (fun h => lwt2 wsX4_actWalks [(4, 125), (1, 177), (1, 185), (1, 168), (4, 126), (4, 89), (4, 90), (4, 87), (1, 2), (4, 106), (1, 162), (4, 91), (4, 126), (4, 88), (4, 87), (4, 92), (4, 93), (1, 4), (4, 94), (1, 176), (1, 184), (4, 95), (1, 48), (4, 96), (4, 97), (1, 5), (4, 98), (1, 178), (1, 186), (4, 102), (4, 103), (1, 6), (4, 104), (1, 179), (1, 187), (4, 105), (6, 183), (1, 62), (1, 191), (1, 193), (1, 195), (1, 197), (1, 199)] rfl w h) (fun h => (List.mem_append.mp h).elim (fun h => lwt2 wsX4_actLooks [(4, 106), (1, 177), (1, 185), (1, 162), (1, 191), (1, 193), (1, 195), (1, 197), (1, 199)] rfl w h) (fun h => lwt2 wsX4_actParts [(4, 147), (1, 177), (1, 185), (1, 168), (1, 162), (1, 173), (1, 191), (1, 193), (1, 195), (1, 197), (1, 199)] rfl w h))))
set_option maxRecDepth 100000 in
theorem nestI_in : ∀ w ∈ nestI, w ∈ lw_tbl := lwt2 nestI [(1, 157), (1, 65), (1, 37), (1, 30), (1, 44), (1, 51), (1, 133), (1, 58), (1, 68), (1, 40), (1, 47), (1, 54), (1, 61)] rfl
set_option maxRecDepth 100000 in
theorem castI_in : ∀ w ∈ castI, w ∈ lw_tbl := lwt2 castI [(6, 185), (6, 186), (6, 187), (6, 188), (6, 189)] rfl
theorem nw_ac : Cond.arrayClass .int ∈ lw_tbl ∧ Cond.arrayClass .byte ∈ lw_tbl ∧ Cond.arrayClass .char ∈ lw_tbl ∧ Cond.arrayOver (.object RX4) ∈ lw_tbl ∧ Cond.arrayOver (.object RX3) ∈ lw_tbl := ⟨lwt2 [Cond.arrayClass .int] [(1, 130)] rfl _ List.mem_cons_self, lwt2 [Cond.arrayClass .byte] [(1, 154)] rfl _ List.mem_cons_self, lwt2 [Cond.arrayClass .char] [(5, 31)] rfl _ List.mem_cons_self, lwt2 [Cond.arrayOver (.object RX4)] [(1, 28)] rfl _ List.mem_cons_self, lwt2 [Cond.arrayOver (.object RX3)] [(1, 203)] rfl _ List.mem_cons_self⟩
theorem nw_in : Cond.instantiable RX0 5 ∈ lw_tbl ∧ Cond.instantiable RX1 0 ∈ lw_tbl ∧ Cond.instantiable RX2 0 ∈ lw_tbl ∧ Cond.instantiable RX3 2 ∈ lw_tbl ∧ Cond.instantiable RX4 0 ∈ lw_tbl ∧ Cond.instantiable RX5 0 ∈ lw_tbl ∧ Cond.instantiable RX6 0 ∈ lw_tbl ∧ Cond.instantiable RX7 5 ∈ lw_tbl ∧ Cond.instantiable RX8 11 ∈ lw_tbl ∧ Cond.instantiable RX9 0 ∈ lw_tbl ∧ Cond.instantiable RX10 13 ∈ lw_tbl ∧ Cond.instantiable RX11 24 ∈ lw_tbl := ⟨lwt2 [Cond.instantiable RX0 5] [(1, 156)] rfl _ List.mem_cons_self, lwt2 [Cond.instantiable RX1 0] [(1, 64)] rfl _ List.mem_cons_self, lwt2 [Cond.instantiable RX2 0] [(1, 36)] rfl _ List.mem_cons_self, lwt2 [Cond.instantiable RX3 2] [(4, 39)] rfl _ List.mem_cons_self, lwt2 [Cond.instantiable RX4 0] [(1, 29)] rfl _ List.mem_cons_self, lwt2 [Cond.instantiable RX5 0] [(1, 43)] rfl _ List.mem_cons_self, lwt2 [Cond.instantiable RX6 0] [(1, 50)] rfl _ List.mem_cons_self, lwt2 [Cond.instantiable RX7 5] [(1, 132)] rfl _ List.mem_cons_self, lwt2 [Cond.instantiable RX8 11] [(1, 71)] rfl _ List.mem_cons_self, lwt2 [Cond.instantiable RX9 0] [(1, 57)] rfl _ List.mem_cons_self, lwt2 [Cond.instantiable RX10 13] [(1, 20)] rfl _ List.mem_cons_self, lwt2 [Cond.instantiable RX11 24] [(4, 190)] rfl _ List.mem_cons_self⟩
set_option maxHeartbeats 4000000 in
set_option maxRecDepth 100000 in
theorem law_at {p : Program} {s : State} {m : MethodId} {meth : Method} {c : Code} {b L : Nat} {xs : Nat → Int32} (hL : L ≤ 2560) (C0 : lw_At p s m meth c b L xs) : ∃ g : GG, LC p s m meth c g b L xs := by
  obtain ⟨hx, hb, hr, hml, hown, hts, hX, hbl, hlocks, hgv⟩ := C0
  have hq : ∀ w ∈ nwF, w.before #[Value.ref b] s = true := flat_of_before _ hgv
  have hA : ∀ a : Nat, a < s.heap.size → ¬ (fun q : Nat => s.heap.size ≤ q) a := fun a h => Nat.not_le.mpr h
  obtain ⟨c0, i0, k0⟩ := u_known (C := RX0) (T := TX0) (N := 5) (n := 5) hts lwi_wsX00 (hts _ nw_in.1)
  obtain ⟨c1, i1, k1⟩ := u_known (C := RX1) (T := TX1) (N := 0) (n := 0) hts lwi_wsX10 (hts _ nw_in.2.1)
  obtain ⟨c2, i2, k2⟩ := u_known (C := RX2) (T := TX2) (N := 0) (n := 0) hts lwi_wsX20 (hts _ nw_in.2.2.1)
  obtain ⟨c3, i3, k3⟩ := u_known (C := RX3) (T := TX3) (N := 2) (n := 2) hts lwi_wsX30 (hts _ nw_in.2.2.2.1)
  obtain ⟨c4, i4, k4⟩ := u_known (C := RX4) (T := TX4) (N := 0) (n := 0) hts lwi_wsX40 (hts _ nw_in.2.2.2.2.1)
  obtain ⟨c5, i5, k5⟩ := u_known (C := RX5) (T := TX5) (N := 0) (n := 0) hts lwi_wsX50 (hts _ nw_in.2.2.2.2.2.1)
  obtain ⟨c6, i6, k6⟩ := u_known (C := RX6) (T := TX6) (N := 0) (n := 0) hts lwi_wsX60 (hts _ nw_in.2.2.2.2.2.2.1)
  obtain ⟨c7, i7, k7⟩ := u_known (C := RX7) (T := TX7) (N := 5) (n := 5) hts lwi_wsX70 (hts _ nw_in.2.2.2.2.2.2.2.1)
  obtain ⟨c8, i8, k8⟩ := u_known (C := RX8) (T := TX8) (N := 11) (n := 11) hts lwi_wsX80 (hts _ nw_in.2.2.2.2.2.2.2.2.1)
  obtain ⟨c9, i9, k9⟩ := u_known (C := RX9) (T := TX9) (N := 0) (n := 0) hts lwi_wsX90 (hts _ nw_in.2.2.2.2.2.2.2.2.2.1)
  obtain ⟨c10, i10, k10⟩ := u_known (C := RX10) (T := TX10) (N := 13) (n := 13) hts lwi_wsX100 (hts _ nw_in.2.2.2.2.2.2.2.2.2.2.1)
  obtain ⟨c11, i11, k11⟩ := u_known (C := RX11) (T := TX11) (N := 24) (n := 24) hts lwi_wsX110 (hts _ nw_in.2.2.2.2.2.2.2.2.2.2.2)
  have hKc : ∀ (k : Nat) (q : vw_C), vwCl[k]? = some q → u_Kn s q.1 q.2.1 q.2.2 ([c0, c1, c2, c3, c4, c5, c6, c7, c8, c9, c10, c11].getD k c0) ([i0, i1, i2, i3, i4, i5, i6, i7, i8, i9, i10, i11].getD k i0) := by
    intro k q hq
    match k, hq with
    | 0, hq => cases hq; exact k0
    | 1, hq => cases hq; exact k1
    | 2, hq => cases hq; exact k2
    | 3, hq => cases hq; exact k3
    | 4, hq => cases hq; exact k4
    | 5, hq => cases hq; exact k5
    | 6, hq => cases hq; exact k6
    | 7, hq => cases hq; exact k7
    | 8, hq => cases hq; exact k8
    | 9, hq => cases hq; exact k9
    | 10, hq => cases hq; exact k10
    | 11, hq => cases hq; exact k11
    | k + 12, hq => simp [vwCl] at hq
  obtain ⟨cI, aI, fI⟩ := tys_ok (hts _ nw_ac.1)
  obtain ⟨cB, aB, fB⟩ := tys_ok (hts _ nw_ac.2.1)
  obtain ⟨cC, aC, fC⟩ := tys_ok (hts _ nw_ac.2.2.1)
  obtain ⟨cK, aK, fK⟩ := tyo_ok (hts _ nw_ac.2.2.2.1)
  obtain ⟨cT, aT, fT⟩ := tyo_ok (hts _ nw_ac.2.2.2.2)
  obtain ⟨t0, e0, T0⟩ := va_Tof (tm := .static "LightMan" "MOST_OF_LAW" "[I") (ty := .int) (N := 4) (f := fun j => .int (tq_most j)) (A := fun q : Nat => s.heap.size ≤ q) (by decide) (hq _ nw_tq_most2.1) (va_eqt (hq _ nw_tq_most2.2.1)) (fun j hj => va_eqt (hq _ (nw_tq_most j hj))) hA
  obtain ⟨t1, e1, T1⟩ := va_Tof (tm := .static "LightMan" "LAW_AT_FIRST" "[I") (ty := .int) (N := 4) (f := fun j => .int (tq_first j)) (A := fun q : Nat => s.heap.size ≤ q) (by decide) (hq _ nw_tq_first2.1) (va_eqt (hq _ nw_tq_first2.2.1)) (fun j hj => va_eqt (hq _ (nw_tq_first j hj))) hA
  obtain ⟨t2, e2, T2⟩ := va_Tof (tm := .static "LightMan" "TAKEN_FOR" "[I") (ty := .int) (N := 6) (f := fun j => .int (tq_taken j)) (A := fun q : Nat => s.heap.size ≤ q) (by decide) (hq _ nw_tq_taken2.1) (va_eqt (hq _ nw_tq_taken2.2.1)) (fun j hj => va_eqt (hq _ (nw_tq_taken j hj))) hA
  obtain ⟨adK, adV, hSs, hSe⟩ := vk_Sof (N := 15) (tm := fun i => .string RX7 (tq_ix.getD i 0)) (len := tq_len) (byt := tq_byt) (A := fun q : Nat => s.heap.size ≤ q) nw_N (fun i hi => hq _ (nw_ex i hi)) (fun i hi => hq _ (nw_co i hi)) (fun i hi => hq _ (nw_ar i hi)) (fun i hi => hq _ (nw_le i hi)) (fun i hi j hj => hq _ (nw_el i hi j hj)) (fun i j hi hj hne => (nw_ne i hi j hj hne).imp (fun h => hq _ h) (fun h => hq _ h)) hA
  refine ⟨((fun k => [c0, c1, c2, c3, c4, c5, c6, c7, c8, c9, c10, c11].getD k c0, fun k => [i0, i1, i2, i3, i4, i5, i6, i7, i8, i9, i10, i11].getD k i0), cI, cB, cC, cK, cT, (t0, t1, t2), adK, adV), ⟨hx, hb, hml, hown, fun w h => hts w (wsL_law_in w h)⟩, ?_, ?_, ?_, hX, hbl, hL⟩
  · refine ⟨⟨hKc, fun k q h => ?_⟩, ⟨va_Nw.of rfl (hts _ (nwN_in _ (List.mem_of_getElem? (i := 0) rfl))), va_Nw.of rfl (hts _ (nwN_in _ (List.mem_of_getElem? (i := 1) rfl)))⟩, ⟨va_Nw.of rfl (hts _ (nwN_in _ (List.mem_of_getElem? (i := 2) rfl))), va_Nw.of rfl (hts _ (nwN_in _ (List.mem_of_getElem? (i := 3) rfl)))⟩, fun i hi => vk_R.of (hts _ (nw_tx i hi)) (hSe i hi), fun w h => va_Nw.of (xw_tab w h) (hts w (xw_in w h))⟩
    match k, h with
    | 0, h => cases h; exact ⟨aI, fI⟩
    | 1, h => cases h; exact ⟨aB, fB⟩
    | 2, h => cases h; exact ⟨aC, fC⟩
    | 3, h => cases h; exact ⟨aK, fK⟩
    | 4, h => cases h; exact ⟨aT, fT⟩
    | k + 5, h => simp [gy] at h
  · exact ⟨fun w h => va_Nw.of (nestI_tab w h) (hts w (nestI_in w h)), fun w h => va_Nw.of (castI_tab w h) (hts w (castI_in w h)), va_AO.of (hts _ nw_ac.2.2.2.1), va_AO.of (hts _ nw_ac.2.2.2.2)⟩
  · exact ⟨⟨va_Zof (hts _ nw_tq_most2.2.2) (hts _ nw_cs.2.2.2) e0 hA, T0⟩, ⟨va_Zof (hts _ nw_tq_first2.2.2) (hts _ nw_cs.2.2.2) e1 hA, T1⟩, ⟨va_Zof (hts _ nw_tq_taken2.2.2) (hts _ nw_cs.2.2.2) e2 hA, T2⟩, va_Zof (hts _ nw_cs.2.1) (hts _ nw_cs.2.2.1) (va_eqt (hq _ nw_cs.1)) hA, hSs, va_Zqof (hts _ nw_si.2.1) (hts _ nw_si.2.2) (hq _ nw_si.1) hA⟩
