def f_X10_isOutside (v : Int32) (least : Int32) (most : Int32) : Int32 := if v < least then 1 else (if v ≤ most then 0 else 1)
abbrev rmX10_isOutside : Room := { frames := 0, cells := 0, slots := 0, locals := 0 }
set_option maxHeartbeats 4000000 in
set_option maxRecDepth 100000 in
theorem c_X10_isOutside (l : Launch) (g : GG) (v : Int32) (least : Int32) (most : Int32) : mt l g yX10_isOutside wsX10_isOutside rmX10_isOutside [.int v, .int least, .int most] [] (some (.int (f_X10_isOutside v least most))) [] := by
  refine mt.of (cc := cX10_isOutside) (nL := 3) (ret := (some .boolean)) (own := RX10) (by decide +kernel) rfl rfl rfl (Nat.le_of_ble_eq_true rfl) (fun p e s m below meth c hf hr hlk _ hk hst hw ls hl => ?_)
  have hx := hf.1
  have hb := hf.2.1
  have hts := hf.2.2.2.2
  have hl : lv_has ls 3 [(0, .int v), (1, .int least), (2, .int most)] := hl
  refine lv_iload_n hx hb dX10_isOutside_0 rfl (lv_at hl 0 rfl) ?_
  refine lv_iload_n hx hb dX10_isOutside_1 rfl (lv_at hl 1 rfl) ?_
  refine lv_icmp_lt (tgt := 10) hx hb dX10_isOutside_2 (by decide) (fun c_1 => ?_) (fun c_1 => ?_)
  · refine lv_iconst (v := 1) hx hb dX10_isOutside_10 (by decide) ?_
    refine lv_goto (tgt := 15) hx hb dX10_isOutside_11 (by decide) ?_
    exact re_z hf hr hlk hw (rfl) (by simp only [f_X10_isOutside, if_pos c_1]) (rfl) dX10_isOutside_15
  · refine lv_iload_n hx hb dX10_isOutside_5 rfl (lv_at hl 0 rfl) ?_
    refine lv_iload_n hx hb dX10_isOutside_6 rfl (lv_at hl 2 rfl) ?_
    refine lv_icmp_le (tgt := 14) hx hb dX10_isOutside_7 (by decide) (fun c_2 => ?_) (fun c_2 => ?_)
    · refine lv_iconst (v := 0) hx hb dX10_isOutside_14 (by decide) ?_
      exact re_z hf hr hlk hw (rfl) (by simp only [f_X10_isOutside, if_neg c_1, if_pos c_2]) (rfl) dX10_isOutside_15
    · refine lv_iconst (v := 1) hx hb dX10_isOutside_10 (by decide) ?_
      refine lv_goto (tgt := 15) hx hb dX10_isOutside_11 (by decide) ?_
      exact re_z hf hr hlk hw (rfl) (by simp only [f_X10_isOutside, if_neg c_1, if_neg c_2]) (rfl) dX10_isOutside_15
theorem nar_out (v a b : Int32) : narrow .boolean (.int (f_X10_isOutside v a b)) = .int (f_X10_isOutside v a b) := by
  unfold f_X10_isOutside; split; · rfl
  split <;> rfl
theorem hdS_X10_isOutside : yX10_isOutside.cls ≠ "java/lang/invoke/MethodHandle" ∧ yX10_isOutside.cls ≠ "java/lang/invoke/VarHandle" ∧ (parseMethodDescriptor yX10_isOutside.desc).map (fun d => d.parameters.length) = some 3 := by decide +kernel
abbrev rmX10_isNoRest : Room := { frames := 1, cells := 0, slots := 0, locals := 22 }
set_option maxHeartbeats 4000000 in
set_option maxRecDepth 100000 in
theorem c_X10_isNoRest (l : Launch) (g : GG) (v : Int32) : mt l g yX10_isNoRest wsX10_isNoRest rmX10_isNoRest [.int v] [] (some (.int (f_X10_isOutside v 0 5))) [] := by
  refine mt.of (cc := cX10_isNoRest) (nL := 1) (ret := (some .boolean)) (own := RX10) (by decide +kernel) rfl rfl rfl (Nat.le_of_ble_eq_true rfl) (fun p e s m below meth c hf hr hlk _ hk hst hw ls hl => ?_)
  have hx := hf.1
  have hb := hf.2.1
  have hts := hf.2.2.2.2
  have hl : lv_has ls 1 [(0, .int v)] := hl
  refine lv_iload_n hx hb dX10_isNoRest_0 rfl (lv_at hl 0 rfl) ?_
  refine lv_iconst (v := 0) hx hb dX10_isNoRest_1 (by decide) ?_
  refine lv_iconst (v := 5) hx hb dX10_isNoRest_2 (by decide) ?_
  refine mcS hf hk hst hw (c_X10_isOutside l g v 0 5) (va_cwS 3 hts gX10_isNoRest_X10_isOutside rfl rfl rfl hdS_X10_isOutside ⟨Nat.le_of_ble_eq_true rfl, Nat.le_of_ble_eq_true rfl⟩) [] rfl rfl rfl hl.1 rfl (Nat.le_of_ble_eq_true rfl) dX10_isNoRest_3 ⟨Nat.zero_le _, Nat.zero_le _⟩ (W' := []) rfl (fun H locs hw => ?_)
  exact re_z hf hr hlk hw (nar_out _ _ _) (rfl) (rfl) dX10_isNoRest_6
abbrev rmX10_isNoKind : Room := { frames := 1, cells := 0, slots := 0, locals := 22 }
set_option maxHeartbeats 4000000 in
set_option maxRecDepth 100000 in
theorem c_X10_isNoKind (l : Launch) (g : GG) (v : Int32) : mt l g yX10_isNoKind wsX10_isNoKind rmX10_isNoKind [.int v] [] (some (.int (f_X10_isOutside v 0 5))) [] := by
  refine mt.of (cc := cX10_isNoKind) (nL := 1) (ret := (some .boolean)) (own := RX10) (by decide +kernel) rfl rfl rfl (Nat.le_of_ble_eq_true rfl) (fun p e s m below meth c hf hr hlk _ hk hst hw ls hl => ?_)
  have hx := hf.1
  have hb := hf.2.1
  have hts := hf.2.2.2.2
  have hl : lv_has ls 1 [(0, .int v)] := hl
  refine lv_iload_n hx hb dX10_isNoKind_0 rfl (lv_at hl 0 rfl) ?_
  refine lv_iconst (v := 0) hx hb dX10_isNoKind_1 (by decide) ?_
  refine lv_iconst (v := 5) hx hb dX10_isNoKind_2 (by decide) ?_
  refine mcS hf hk hst hw (c_X10_isOutside l g v 0 5) (va_cwS 3 hts gX10_isNoKind_X10_isOutside rfl rfl rfl hdS_X10_isOutside ⟨Nat.le_of_ble_eq_true rfl, Nat.le_of_ble_eq_true rfl⟩) [] rfl rfl rfl hl.1 rfl (Nat.le_of_ble_eq_true rfl) dX10_isNoKind_3 ⟨Nat.zero_le _, Nat.zero_le _⟩ (W' := []) rfl (fun H locs hw => ?_)
  exact re_z hf hr hlk hw (nar_out _ _ _) (rfl) (rfl) dX10_isNoKind_6
abbrev rmX10_isNoSheet : Room := { frames := 1, cells := 0, slots := 0, locals := 22 }
set_option maxHeartbeats 4000000 in
set_option maxRecDepth 100000 in
theorem c_X10_isNoSheet (l : Launch) (g : GG) (v : Int32) : mt l g yX10_isNoSheet wsX10_isNoSheet rmX10_isNoSheet [.int v] [] (some (.int (f_X10_isOutside v 0 3))) [] := by
  refine mt.of (cc := cX10_isNoSheet) (nL := 1) (ret := (some .boolean)) (own := RX10) (by decide +kernel) rfl rfl rfl (Nat.le_of_ble_eq_true rfl) (fun p e s m below meth c hf hr hlk _ hk hst hw ls hl => ?_)
  have hx := hf.1
  have hb := hf.2.1
  have hts := hf.2.2.2.2
  have hl : lv_has ls 1 [(0, .int v)] := hl
  refine lv_iload_n hx hb dX10_isNoSheet_0 rfl (lv_at hl 0 rfl) ?_
  refine lv_iconst (v := 0) hx hb dX10_isNoSheet_1 (by decide) ?_
  refine lv_iconst (v := 3) hx hb dX10_isNoSheet_2 (by decide) ?_
  refine mcS hf hk hst hw (c_X10_isOutside l g v 0 3) (va_cwS 3 hts gX10_isNoSheet_X10_isOutside rfl rfl rfl hdS_X10_isOutside ⟨Nat.le_of_ble_eq_true rfl, Nat.le_of_ble_eq_true rfl⟩) [] rfl rfl rfl hl.1 rfl (Nat.le_of_ble_eq_true rfl) dX10_isNoSheet_3 ⟨Nat.zero_le _, Nat.zero_le _⟩ (W' := []) rfl (fun H locs hw => ?_)
  exact re_z hf hr hlk hw (nar_out _ _ _) (rfl) (rfl) dX10_isNoSheet_6
abbrev rmX10_isNoShelf : Room := { frames := 1, cells := 0, slots := 0, locals := 22 }
set_option maxHeartbeats 4000000 in
set_option maxRecDepth 100000 in
theorem c_X10_isNoShelf (l : Launch) (g : GG) (v : Int32) : mt l g yX10_isNoShelf wsX10_isNoShelf rmX10_isNoShelf [.int v] [] (some (.int (f_X10_isOutside v 0 3))) [] := by
  refine mt.of (cc := cX10_isNoShelf) (nL := 1) (ret := (some .boolean)) (own := RX10) (by decide +kernel) rfl rfl rfl (Nat.le_of_ble_eq_true rfl) (fun p e s m below meth c hf hr hlk _ hk hst hw ls hl => ?_)
  have hx := hf.1
  have hb := hf.2.1
  have hts := hf.2.2.2.2
  have hl : lv_has ls 1 [(0, .int v)] := hl
  refine lv_iload_n hx hb dX10_isNoShelf_0 rfl (lv_at hl 0 rfl) ?_
  refine lv_iconst (v := 0) hx hb dX10_isNoShelf_1 (by decide) ?_
  refine lv_iconst (v := 3) hx hb dX10_isNoShelf_2 (by decide) ?_
  refine mcS hf hk hst hw (c_X10_isOutside l g v 0 3) (va_cwS 3 hts gX10_isNoShelf_X10_isOutside rfl rfl rfl hdS_X10_isOutside ⟨Nat.le_of_ble_eq_true rfl, Nat.le_of_ble_eq_true rfl⟩) [] rfl rfl rfl hl.1 rfl (Nat.le_of_ble_eq_true rfl) dX10_isNoShelf_3 ⟨Nat.zero_le _, Nat.zero_le _⟩ (W' := []) rfl (fun H locs hw => ?_)
  exact re_z hf hr hlk hw (nar_out _ _ _) (rfl) (rfl) dX10_isNoShelf_6
def f_J9_floorMod_7cf53 (x : Int32) (y : Int32) : Int32 := if 0 ≤ (x ^^^ y) then (x - x / y * y) else (if (x - x / y * y) = 0 then (x - x / y * y) else ((x - x / y * y) + y))
abbrev rmJ9_floorMod_7cf53 : Room := { frames := 0, cells := 0, slots := 0, locals := 0 }
set_option maxHeartbeats 4000000 in
set_option maxRecDepth 100000 in
theorem c_J9_floorMod_7cf53 (l : Launch) (g : GG) (x : Int32) (y : Int32) (hy : ¬ y = 0) : mt l g yJ9_floorMod_7cf53 wsJ9_floorMod_7cf53 rmJ9_floorMod_7cf53 [.int x, .int y] [] (some (.int (f_J9_floorMod_7cf53 x y))) [] := by
  refine mt.of (cc := cJ9_floorMod_7cf53) (nL := 3) (ret := (some .int)) (own := RJ9) (by decide +kernel) rfl rfl rfl (Nat.le_of_ble_eq_true rfl) (fun p e s m below meth c hf hr hlk _ hk hst hw ls hl => ?_)
  have hx := hf.1
  have hb := hf.2.1
  have hts := hf.2.2.2.2
  have hl : lv_has ls 3 [(0, .int x), (1, .int y)] := hl
  refine lv_iload_n hx hb dJ9_floorMod_7cf53_0 rfl (lv_at hl 0 rfl) ?_
  refine lv_iload_n hx hb dJ9_floorMod_7cf53_1 rfl (lv_at hl 1 rfl) ?_
  refine lv_irem hx hb dJ9_floorMod_7cf53_2 (hy) ?_
  refine lv_istore_n (lv' := [(2, .int (x - x / y * y)), (0, .int x), (1, .int y)]) hx hb dJ9_floorMod_7cf53_3 rfl hl (by decide) rfl (fun ls hl => ?_)
  refine lv_iload_n hx hb dJ9_floorMod_7cf53_4 rfl (lv_at hl 1 rfl) ?_
  refine lv_iload_n hx hb dJ9_floorMod_7cf53_5 rfl (lv_at hl 2 rfl) ?_
  refine lv_ixor hx hb dJ9_floorMod_7cf53_6 ?_
  refine lv_if_ge (tgt := 18) hx hb dJ9_floorMod_7cf53_7 (by decide) (fun c_1 => ?_) (fun c_1 => ?_)
  · refine lv_iload_n hx hb dJ9_floorMod_7cf53_18 rfl (lv_at hl 0 rfl) ?_
    exact re_i hf hr hlk hw (by simp only [f_J9_floorMod_7cf53, if_pos c_1]) (rfl) dJ9_floorMod_7cf53_19
  · refine lv_iload_n hx hb dJ9_floorMod_7cf53_10 rfl (lv_at hl 0 rfl) ?_
    refine lv_if_eq (tgt := 18) hx hb dJ9_floorMod_7cf53_11 (by decide) (fun c_2 => ?_) (fun c_2 => ?_)
    · refine lv_iload_n hx hb dJ9_floorMod_7cf53_18 rfl (lv_at hl 0 rfl) ?_
      exact re_i hf hr hlk hw (by simp only [f_J9_floorMod_7cf53, if_neg c_1, if_pos c_2]) (rfl) dJ9_floorMod_7cf53_19
    · refine lv_iload_n hx hb dJ9_floorMod_7cf53_14 rfl (lv_at hl 0 rfl) ?_
      refine lv_iload_n hx hb dJ9_floorMod_7cf53_15 rfl (lv_at hl 2 rfl) ?_
      refine lv_iadd hx hb dJ9_floorMod_7cf53_16 ?_
      exact re_i hf hr hlk hw (by simp only [f_J9_floorMod_7cf53, if_neg c_1, if_neg c_2]) (rfl) dJ9_floorMod_7cf53_17
theorem x_xor (a b : Nat) : nI a ^^^ nI b = nI (a ^^^ b) := by
  apply Int32.toBitVec_inj.1
  show BitVec.ofNat 32 a ^^^ BitVec.ofNat 32 b = BitVec.ofNat 32 (a ^^^ b)
  apply BitVec.eq_of_getLsbD_eq
  intro i hi
  simp [hi]
theorem fm6 {n : Nat} (h : n < 2 ^ 31) : f_J9_floorMod_7cf53 (nI n) 6 = nI (n % 6) := by
  have e : nI n - nI n / 6 * 6 = nI (n % 6) := pk_rem h (by decide) (by decide)
  have hx : (0 : Int32) ≤ nI n ^^^ 6 := by
    rw [show nI n ^^^ 6 = nI (n ^^^ 6) from x_xor n 6]
    exact nI_pos' (Nat.xor_lt_two_pow h (by decide))
  unfold f_J9_floorMod_7cf53
  rw [if_pos hx]
  exact e
theorem hdS_J9_floorMod_7cf53 : yJ9_floorMod_7cf53.cls ≠ "java/lang/invoke/MethodHandle" ∧ yJ9_floorMod_7cf53.cls ≠ "java/lang/invoke/VarHandle" ∧ (parseMethodDescriptor yJ9_floorMod_7cf53.desc).map (fun d => d.parameters.length) = some 2 := by decide +kernel
abbrev rmX10_restOf : Room := { frames := 1, cells := 0, slots := 0, locals := 22 }
set_option maxHeartbeats 4000000 in
set_option maxRecDepth 100000 in
theorem c_X10_restOf (l : Launch) (g : GG) (n : Nat) (hn : n < 2 ^ 31) : mt l g yX10_restOf wsX10_restOf rmX10_restOf [.int (nI n)] [] (some (.int (nI (n % 6)))) [] := by
  refine mt.of (cc := cX10_restOf) (nL := 1) (ret := (some .int)) (own := RX10) (by decide +kernel) rfl rfl rfl (Nat.le_of_ble_eq_true rfl) (fun p e s m below meth c hf hr hlk _ hk hst hw ls hl => ?_)
  have hx := hf.1
  have hb := hf.2.1
  have hts := hf.2.2.2.2
  have hl : lv_has ls 1 [(0, .int (nI n))] := hl
  refine lv_iload_n hx hb dX10_restOf_0 rfl (lv_at hl 0 rfl) ?_
  refine lv_bipush (v := 6) hx hb dX10_restOf_1 (by decide) ?_
  refine mcS hf hk hst hw (c_J9_floorMod_7cf53 l g (nI n) 6 (by decide)) (va_cwS 2 hts gX10_restOf_J9_floorMod_7cf53 rfl rfl rfl hdS_J9_floorMod_7cf53 ⟨Nat.le_of_ble_eq_true rfl, Nat.le_of_ble_eq_true rfl⟩) [] rfl rfl rfl hl.1 rfl (Nat.le_of_ble_eq_true rfl) dX10_restOf_3 ⟨Nat.zero_le _, Nat.zero_le _⟩ (W' := []) rfl (fun H locs hw => ?_)
  exact re_i hf hr hlk hw (congrArg Value.int (fm6 hn)) (rfl) dX10_restOf_6
abbrev rmX10_heldFaith : Room := { frames := 1, cells := 0, slots := 0, locals := 14 }
set_option maxHeartbeats 4000000 in
set_option maxRecDepth 100000 in
theorem c_X10_heldFaith (l : Launch) (g : GG) (v : Int32) : mt l g yX10_heldFaith wsX10_heldFaith rmX10_heldFaith [.int v] [] (some (.int (mmax32 0 (mmin32 99 v)))) [] := by
  refine mt.of (cc := cX10_heldFaith) (nL := 1) (ret := (some .int)) (own := RX10) (by decide +kernel) rfl rfl rfl (Nat.le_of_ble_eq_true rfl) (fun p e s m below meth c hf hr hlk _ hk hst hw ls hl => ?_)
  have hx := hf.1
  have hb := hf.2.1
  have hts := hf.2.2.2.2
  have hl : lv_has ls 1 [(0, .int v)] := hl
  have w_0 : Cond.methodLink RX10 317 Lib.Math.min.name ∈ wsX10_heldFaith := List.mem_of_getElem? (i := 1) rfl
  have w_1 : Cond.static Lib.Math.min.name ∈ wsX10_heldFaith := List.mem_of_getElem? (i := 2) rfl
  have w_2 : Cond.initialized "java/lang/Math" ∈ wsX10_heldFaith := List.mem_of_getElem? (i := 3) rfl
  have w_3 : Cond.code Lib.Math.min.name Lib.Math.min.code 2 (some .int) ∈ wsX10_heldFaith := List.mem_of_getElem? (i := 4) rfl
  have w_4 : Cond.methodLink RX10 320 Lib.Math.max.name ∈ wsX10_heldFaith := List.mem_of_getElem? (i := 5) rfl
  have w_5 : Cond.static Lib.Math.max.name ∈ wsX10_heldFaith := List.mem_of_getElem? (i := 6) rfl
  have w_6 : Cond.code Lib.Math.max.name Lib.Math.max.code 2 (some .int) ∈ wsX10_heldFaith := List.mem_of_getElem? (i := 7) rfl
  refine lv_iconst (v := 0) hx hb dX10_heldFaith_0 (by decide) ?_
  refine lv_bipush (v := 99) hx hb dX10_heldFaith_1 (by decide) ?_
  refine lv_iload_n hx hb dX10_heldFaith_3 rfl (lv_at hl 0 rfl) ?_
  refine rmmin hx hb (hf.2.2.1.trans hl.1.symm) hf.2.2.2.1 (hts _ w_0) (hts _ w_1) (hts _ w_2) (hts _ w_3) (Nat.le_of_ble_eq_true rfl) (Nat.le_of_ble_eq_true rfl) (Nat.zero_le _) (Nat.zero_le _) dX10_heldFaith_4 ?_
  refine rmmax hx hb (hf.2.2.1.trans hl.1.symm) hf.2.2.2.1 (hts _ w_4) (hts _ w_5) (hts _ w_2) (hts _ w_6) (Nat.le_of_ble_eq_true rfl) (Nat.le_of_ble_eq_true rfl) (Nat.zero_le _) (Nat.zero_le _) dX10_heldFaith_7 ?_
  exact re_i hf hr hlk hw (rfl) (rfl) dX10_heldFaith_10
abbrev rmX4_sight : Room := { frames := 0, cells := 0, slots := 0, locals := 0 }
set_option maxHeartbeats 4000000 in
set_option maxRecDepth 100000 in
theorem c_X4_sight (l : Launch) (g : GG) (k : Nat) (fog : Int32) (arms : Int32) (hum : Int32) : mt l g yX4_sight wsX4_sight rmX4_sight [.ref k, .int fog, .int arms, .int hum] [] (some (.int ((8 + arms) - fog))) [] := by
  refine mt.of (cc := cX4_sight) (nL := 4) (ret := (some .int)) (own := RX4) (by decide +kernel) rfl rfl rfl (Nat.le_of_ble_eq_true rfl) (fun p e s m below meth c hf hr hlk _ hk hst hw ls hl => ?_)
  have hx := hf.1
  have hb := hf.2.1
  have hts := hf.2.2.2.2
  have hl : lv_has ls 4 [(0, .ref k), (1, .int fog), (2, .int arms), (3, .int hum)] := hl
  refine lv_bipush (v := 8) hx hb dX4_sight_0 (by decide) ?_
  refine lv_iload_n hx hb dX4_sight_2 rfl (lv_at hl 2 rfl) ?_
  refine lv_iadd hx hb dX4_sight_3 ?_
  refine lv_iload_n hx hb dX4_sight_4 rfl (lv_at hl 1 rfl) ?_
  refine lv_isub hx hb dX4_sight_5 ?_
  exact re_i hf hr hlk hw (rfl) (rfl) dX4_sight_6
theorem hdP_X4_sight : yX4_sight.name ≠ "<init>" ∧ (parseMethodDescriptor yX4_sight.desc).map (fun d => d.parameters.length) = some 3 := by decide +kernel
abbrev rmX2_sight : Room := { frames := 1, cells := 0, slots := 0, locals := 23 }
set_option maxHeartbeats 4000000 in
set_option maxRecDepth 100000 in
theorem c_X2_sight (l : Launch) (g : GG) (k : Nat) (ci : Nat) (C : String) (T : u_T) (N : Nat) (fog : Int32) (arms : Int32) (hum : Int32) (hc : vwCl[ci]? = some (C, T, N)) : mt l g yX2_sight wsX2_sight rmX2_sight [.ref k, .int fog, .int arms, .int hum] [cob k ci []] (some (.int (((8 + arms) - fog) + 4))) [cob k ci []] := by
  refine mt.of (cc := cX2_sight) (nL := 4) (ret := (some .int)) (own := RX2) (by decide +kernel) rfl rfl rfl (Nat.le_of_ble_eq_true rfl) (fun p e s m below meth c hf hr hlk _ hk hst hw ls hl => ?_)
  have hx := hf.1
  have hb := hf.2.1
  have hts := hf.2.2.2.2
  have hl : lv_has ls 4 [(0, .ref k), (1, .int fog), (2, .int arms), (3, .int hum)] := hl
  refine lv_aload_n hx hb dX2_sight_0 rfl (lv_at hl 0 rfl) ?_
  refine lv_iload_n hx hb dX2_sight_1 rfl (lv_at hl 1 rfl) ?_
  refine lv_iload_n hx hb dX2_sight_2 rfl (lv_at hl 2 rfl) ?_
  refine lv_iload_n hx hb dX2_sight_3 rfl (lv_at hl 3 rfl) ?_
  refine mcP hf hk hst hw (c_X4_sight l g k fog arms hum) (va_cwSU 3 hts gX2_sight_X4_sight_s9 rfl rfl rfl hdP_X4_sight ⟨Nat.le_of_ble_eq_true rfl, Nat.le_of_ble_eq_true rfl⟩) [] rfl rfl 0 rfl hc rfl hl.1 rfl (Nat.le_of_ble_eq_true rfl) dX2_sight_4 ⟨Nat.zero_le _, Nat.zero_le _⟩ (W' := [cob k ci []]) rfl (fun H locs hw => ?_)
  refine lv_iconst (v := 4) hx hb dX2_sight_7 (by decide) ?_
  refine lv_iadd hx hb dX2_sight_8 ?_
  exact re_i hf hr hlk hw (rfl) (rfl) dX2_sight_9
theorem hdP_X2_sight : yX2_sight.name ≠ "<init>" ∧ (parseMethodDescriptor yX2_sight.desc).map (fun d => d.parameters.length) = some 3 := by decide +kernel
abbrev rmX6_sight : Room := { frames := 2, cells := 0, slots := 0, locals := 46 }
set_option maxHeartbeats 4000000 in
set_option maxRecDepth 100000 in
theorem c_X6_sight (l : Launch) (g : GG) (k : Nat) (ci : Nat) (C : String) (T : u_T) (N : Nat) (fog : Int32) (arms : Int32) (hum : Int32) (hc : vwCl[ci]? = some (C, T, N)) : mt l g yX6_sight wsX6_sight rmX6_sight [.ref k, .int fog, .int arms, .int hum] [cob k ci []] (some (.int ((((8 + arms) - fog) + 4) - (fog / 2)))) [cob k ci []] := by
  refine mt.of (cc := cX6_sight) (nL := 4) (ret := (some .int)) (own := RX6) (by decide +kernel) rfl rfl rfl (Nat.le_of_ble_eq_true rfl) (fun p e s m below meth c hf hr hlk _ hk hst hw ls hl => ?_)
  have hx := hf.1
  have hb := hf.2.1
  have hts := hf.2.2.2.2
  have hl : lv_has ls 4 [(0, .ref k), (1, .int fog), (2, .int arms), (3, .int hum)] := hl
  refine lv_aload_n hx hb dX6_sight_0 rfl (lv_at hl 0 rfl) ?_
  refine lv_iload_n hx hb dX6_sight_1 rfl (lv_at hl 1 rfl) ?_
  refine lv_iload_n hx hb dX6_sight_2 rfl (lv_at hl 2 rfl) ?_
  refine lv_iload_n hx hb dX6_sight_3 rfl (lv_at hl 3 rfl) ?_
  refine mcP hf hk hst hw (c_X2_sight l g k ci C T N fog arms hum hc) (va_cwSU 3 hts gX6_sight_X2_sight_s9 rfl rfl rfl hdP_X2_sight ⟨Nat.le_of_ble_eq_true rfl, Nat.le_of_ble_eq_true rfl⟩) [0] rfl rfl 0 rfl hc rfl hl.1 rfl (Nat.le_of_ble_eq_true rfl) dX6_sight_4 ⟨Nat.zero_le _, Nat.zero_le _⟩ (W' := [cob k ci []]) rfl (fun H locs hw => ?_)
  refine lv_iload_n hx hb dX6_sight_7 rfl (lv_at hl 1 rfl) ?_
  refine lv_iconst (v := 2) hx hb dX6_sight_8 (by decide) ?_
  refine lv_idiv hx hb dX6_sight_9 (by decide) ?_
  refine lv_isub hx hb dX6_sight_10 ?_
  exact re_i hf hr hlk hw (rfl) (rfl) dX6_sight_11
abbrev rmX5_sight : Room := { frames := 1, cells := 0, slots := 0, locals := 23 }
set_option maxHeartbeats 4000000 in
set_option maxRecDepth 100000 in
theorem c_X5_sight (l : Launch) (g : GG) (k : Nat) (ci : Nat) (C : String) (T : u_T) (N : Nat) (fog : Int32) (arms : Int32) (hum : Int32) (hc : vwCl[ci]? = some (C, T, N)) : mt l g yX5_sight wsX5_sight rmX5_sight [.ref k, .int fog, .int arms, .int hum] [cob k ci []] (some (.int (((8 + arms) - fog) - 2))) [cob k ci []] := by
  refine mt.of (cc := cX5_sight) (nL := 4) (ret := (some .int)) (own := RX5) (by decide +kernel) rfl rfl rfl (Nat.le_of_ble_eq_true rfl) (fun p e s m below meth c hf hr hlk _ hk hst hw ls hl => ?_)
  have hx := hf.1
  have hb := hf.2.1
  have hts := hf.2.2.2.2
  have hl : lv_has ls 4 [(0, .ref k), (1, .int fog), (2, .int arms), (3, .int hum)] := hl
  refine lv_aload_n hx hb dX5_sight_0 rfl (lv_at hl 0 rfl) ?_
  refine lv_iload_n hx hb dX5_sight_1 rfl (lv_at hl 1 rfl) ?_
  refine lv_iload_n hx hb dX5_sight_2 rfl (lv_at hl 2 rfl) ?_
  refine lv_iload_n hx hb dX5_sight_3 rfl (lv_at hl 3 rfl) ?_
  refine mcP hf hk hst hw (c_X4_sight l g k fog arms hum) (va_cwSU 3 hts gX5_sight_X4_sight_s9 rfl rfl rfl hdP_X4_sight ⟨Nat.le_of_ble_eq_true rfl, Nat.le_of_ble_eq_true rfl⟩) [] rfl rfl 0 rfl hc rfl hl.1 rfl (Nat.le_of_ble_eq_true rfl) dX5_sight_4 ⟨Nat.zero_le _, Nat.zero_le _⟩ (W' := [cob k ci []]) rfl (fun H locs hw => ?_)
  refine lv_iconst (v := 2) hx hb dX5_sight_7 (by decide) ?_
  refine lv_isub hx hb dX5_sight_8 ?_
  exact re_i hf hr hlk hw (rfl) (rfl) dX5_sight_9
theorem hdP_X5_sight : yX5_sight.name ≠ "<init>" ∧ (parseMethodDescriptor yX5_sight.desc).map (fun d => d.parameters.length) = some 3 := by decide +kernel
abbrev rmX9_sight : Room := { frames := 2, cells := 0, slots := 0, locals := 46 }
set_option maxHeartbeats 4000000 in
set_option maxRecDepth 100000 in
theorem c_X9_sight (l : Launch) (g : GG) (k : Nat) (ci : Nat) (C : String) (T : u_T) (N : Nat) (fog : Int32) (arms : Int32) (hum : Int32) (hc : vwCl[ci]? = some (C, T, N)) : mt l g yX9_sight wsX9_sight rmX9_sight [.ref k, .int fog, .int arms, .int hum] [cob k ci []] (some (.int ((((8 + arms) - fog) - 2) + hum))) [cob k ci []] := by
  refine mt.of (cc := cX9_sight) (nL := 4) (ret := (some .int)) (own := RX9) (by decide +kernel) rfl rfl rfl (Nat.le_of_ble_eq_true rfl) (fun p e s m below meth c hf hr hlk _ hk hst hw ls hl => ?_)
  have hx := hf.1
  have hb := hf.2.1
  have hts := hf.2.2.2.2
  have hl : lv_has ls 4 [(0, .ref k), (1, .int fog), (2, .int arms), (3, .int hum)] := hl
  refine lv_aload_n hx hb dX9_sight_0 rfl (lv_at hl 0 rfl) ?_
  refine lv_iload_n hx hb dX9_sight_1 rfl (lv_at hl 1 rfl) ?_
  refine lv_iload_n hx hb dX9_sight_2 rfl (lv_at hl 2 rfl) ?_
  refine lv_iload_n hx hb dX9_sight_3 rfl (lv_at hl 3 rfl) ?_
  refine mcP hf hk hst hw (c_X5_sight l g k ci C T N fog arms hum hc) (va_cwSU 3 hts gX9_sight_X5_sight_s9 rfl rfl rfl hdP_X5_sight ⟨Nat.le_of_ble_eq_true rfl, Nat.le_of_ble_eq_true rfl⟩) [0] rfl rfl 0 rfl hc rfl hl.1 rfl (Nat.le_of_ble_eq_true rfl) dX9_sight_4 ⟨Nat.zero_le _, Nat.zero_le _⟩ (W' := [cob k ci []]) rfl (fun H locs hw => ?_)
  refine lv_iload_n hx hb dX9_sight_7 rfl (lv_at hl 3 rfl) ?_
  refine lv_iadd hx hb dX9_sight_8 ?_
  exact re_i hf hr hlk hw (rfl) (rfl) dX9_sight_9
abbrev rmX1_sight : Room := { frames := 0, cells := 0, slots := 0, locals := 0 }
set_option maxHeartbeats 4000000 in
set_option maxRecDepth 100000 in
theorem c_X1_sight (l : Launch) (g : GG) (k : Nat) (fog : Int32) (arms : Int32) (hum : Int32) : mt l g yX1_sight wsX1_sight rmX1_sight [.ref k, .int fog, .int arms, .int hum] [] (some (.int (hum * 2))) [] := by
  refine mt.of (cc := cX1_sight) (nL := 4) (ret := (some .int)) (own := RX1) (by decide +kernel) rfl rfl rfl (Nat.le_of_ble_eq_true rfl) (fun p e s m below meth c hf hr hlk _ hk hst hw ls hl => ?_)
  have hx := hf.1
  have hb := hf.2.1
  have hts := hf.2.2.2.2
  have hl : lv_has ls 4 [(0, .ref k), (1, .int fog), (2, .int arms), (3, .int hum)] := hl
  refine lv_iload_n hx hb dX1_sight_0 rfl (lv_at hl 3 rfl) ?_
  refine lv_iconst (v := 2) hx hb dX1_sight_1 (by decide) ?_
  refine lv_imul hx hb dX1_sight_2 ?_
  exact re_i hf hr hlk hw (rfl) (rfl) dX1_sight_3
abbrev rmX4_keen : Room := { frames := 0, cells := 0, slots := 0, locals := 0 }
set_option maxHeartbeats 4000000 in
set_option maxRecDepth 100000 in
theorem c_X4_keen (l : Launch) (g : GG) (k : Nat) (arms : Int32) (hum : Int32) : mt l g yX4_keen wsX4_keen rmX4_keen [.ref k, .int arms, .int hum] [] (some (.int 3)) [] := by
  refine mt.of (cc := cX4_keen) (nL := 3) (ret := (some .int)) (own := RX4) (by decide +kernel) rfl rfl rfl (Nat.le_of_ble_eq_true rfl) (fun p e s m below meth c hf hr hlk _ hk hst hw ls hl => ?_)
  have hx := hf.1
  have hb := hf.2.1
  have hts := hf.2.2.2.2
  have hl : lv_has ls 3 [(0, .ref k), (1, .int arms), (2, .int hum)] := hl
  refine lv_iconst (v := 3) hx hb dX4_keen_0 (by decide) ?_
  exact re_i hf hr hlk hw (rfl) (rfl) dX4_keen_1
theorem hdP_X4_keen : yX4_keen.name ≠ "<init>" ∧ (parseMethodDescriptor yX4_keen.desc).map (fun d => d.parameters.length) = some 2 := by decide +kernel
abbrev rmX2_keen : Room := { frames := 1, cells := 0, slots := 0, locals := 22 }
set_option maxHeartbeats 4000000 in
set_option maxRecDepth 100000 in
theorem c_X2_keen (l : Launch) (g : GG) (k : Nat) (ci : Nat) (C : String) (T : u_T) (N : Nat) (arms : Int32) (hum : Int32) (hc : vwCl[ci]? = some (C, T, N)) : mt l g yX2_keen wsX2_keen rmX2_keen [.ref k, .int arms, .int hum] [cob k ci []] (some (.int (3 + arms))) [cob k ci []] := by
  refine mt.of (cc := cX2_keen) (nL := 3) (ret := (some .int)) (own := RX2) (by decide +kernel) rfl rfl rfl (Nat.le_of_ble_eq_true rfl) (fun p e s m below meth c hf hr hlk _ hk hst hw ls hl => ?_)
  have hx := hf.1
  have hb := hf.2.1
  have hts := hf.2.2.2.2
  have hl : lv_has ls 3 [(0, .ref k), (1, .int arms), (2, .int hum)] := hl
  refine lv_aload_n hx hb dX2_keen_0 rfl (lv_at hl 0 rfl) ?_
  refine lv_iload_n hx hb dX2_keen_1 rfl (lv_at hl 1 rfl) ?_
  refine lv_iload_n hx hb dX2_keen_2 rfl (lv_at hl 2 rfl) ?_
  refine mcP hf hk hst hw (c_X4_keen l g k arms hum) (va_cwSU 2 hts gX2_keen_X4_keen_s13 rfl rfl rfl hdP_X4_keen ⟨Nat.le_of_ble_eq_true rfl, Nat.le_of_ble_eq_true rfl⟩) [] rfl rfl 0 rfl hc rfl hl.1 rfl (Nat.le_of_ble_eq_true rfl) dX2_keen_3 ⟨Nat.zero_le _, Nat.zero_le _⟩ (W' := [cob k ci []]) rfl (fun H locs hw => ?_)
  refine lv_iload_n hx hb dX2_keen_6 rfl (lv_at hl 1 rfl) ?_
  refine lv_iadd hx hb dX2_keen_7 ?_
  exact re_i hf hr hlk hw (rfl) (rfl) dX2_keen_8
theorem hdP_X2_keen : yX2_keen.name ≠ "<init>" ∧ (parseMethodDescriptor yX2_keen.desc).map (fun d => d.parameters.length) = some 2 := by decide +kernel
abbrev rmX6_keen : Room := { frames := 2, cells := 0, slots := 0, locals := 44 }
set_option maxHeartbeats 4000000 in
set_option maxRecDepth 100000 in
theorem c_X6_keen (l : Launch) (g : GG) (k : Nat) (ci : Nat) (C : String) (T : u_T) (N : Nat) (arms : Int32) (hum : Int32) (hc : vwCl[ci]? = some (C, T, N)) : mt l g yX6_keen wsX6_keen rmX6_keen [.ref k, .int arms, .int hum] [cob k ci []] (some (.int ((3 + arms) - 1))) [cob k ci []] := by
  refine mt.of (cc := cX6_keen) (nL := 3) (ret := (some .int)) (own := RX6) (by decide +kernel) rfl rfl rfl (Nat.le_of_ble_eq_true rfl) (fun p e s m below meth c hf hr hlk _ hk hst hw ls hl => ?_)
  have hx := hf.1
  have hb := hf.2.1
  have hts := hf.2.2.2.2
  have hl : lv_has ls 3 [(0, .ref k), (1, .int arms), (2, .int hum)] := hl
  refine lv_aload_n hx hb dX6_keen_0 rfl (lv_at hl 0 rfl) ?_
  refine lv_iload_n hx hb dX6_keen_1 rfl (lv_at hl 1 rfl) ?_
  refine lv_iload_n hx hb dX6_keen_2 rfl (lv_at hl 2 rfl) ?_
  refine mcP hf hk hst hw (c_X2_keen l g k ci C T N arms hum hc) (va_cwSU 2 hts gX6_keen_X2_keen_s13 rfl rfl rfl hdP_X2_keen ⟨Nat.le_of_ble_eq_true rfl, Nat.le_of_ble_eq_true rfl⟩) [0] rfl rfl 0 rfl hc rfl hl.1 rfl (Nat.le_of_ble_eq_true rfl) dX6_keen_3 ⟨Nat.zero_le _, Nat.zero_le _⟩ (W' := [cob k ci []]) rfl (fun H locs hw => ?_)
  refine lv_iconst (v := 1) hx hb dX6_keen_6 (by decide) ?_
  refine lv_isub hx hb dX6_keen_7 ?_
  exact re_i hf hr hlk hw (rfl) (rfl) dX6_keen_8
abbrev rmX5_keen : Room := { frames := 1, cells := 0, slots := 0, locals := 22 }
set_option maxHeartbeats 4000000 in
set_option maxRecDepth 100000 in
theorem c_X5_keen (l : Launch) (g : GG) (k : Nat) (ci : Nat) (C : String) (T : u_T) (N : Nat) (arms : Int32) (hum : Int32) (hc : vwCl[ci]? = some (C, T, N)) : mt l g yX5_keen wsX5_keen rmX5_keen [.ref k, .int arms, .int hum] [cob k ci []] (some (.int (3 * 2))) [cob k ci []] := by
  refine mt.of (cc := cX5_keen) (nL := 3) (ret := (some .int)) (own := RX5) (by decide +kernel) rfl rfl rfl (Nat.le_of_ble_eq_true rfl) (fun p e s m below meth c hf hr hlk _ hk hst hw ls hl => ?_)
  have hx := hf.1
  have hb := hf.2.1
  have hts := hf.2.2.2.2
  have hl : lv_has ls 3 [(0, .ref k), (1, .int arms), (2, .int hum)] := hl
  refine lv_aload_n hx hb dX5_keen_0 rfl (lv_at hl 0 rfl) ?_
  refine lv_iload_n hx hb dX5_keen_1 rfl (lv_at hl 1 rfl) ?_
  refine lv_iload_n hx hb dX5_keen_2 rfl (lv_at hl 2 rfl) ?_
  refine mcP hf hk hst hw (c_X4_keen l g k arms hum) (va_cwSU 2 hts gX5_keen_X4_keen_s13 rfl rfl rfl hdP_X4_keen ⟨Nat.le_of_ble_eq_true rfl, Nat.le_of_ble_eq_true rfl⟩) [] rfl rfl 0 rfl hc rfl hl.1 rfl (Nat.le_of_ble_eq_true rfl) dX5_keen_3 ⟨Nat.zero_le _, Nat.zero_le _⟩ (W' := [cob k ci []]) rfl (fun H locs hw => ?_)
  refine lv_iconst (v := 2) hx hb dX5_keen_6 (by decide) ?_
  refine lv_imul hx hb dX5_keen_7 ?_
  exact re_i hf hr hlk hw (rfl) (rfl) dX5_keen_8
theorem hdP_X5_keen : yX5_keen.name ≠ "<init>" ∧ (parseMethodDescriptor yX5_keen.desc).map (fun d => d.parameters.length) = some 2 := by decide +kernel
abbrev rmX9_keen : Room := { frames := 2, cells := 0, slots := 0, locals := 44 }
set_option maxHeartbeats 4000000 in
set_option maxRecDepth 100000 in
theorem c_X9_keen (l : Launch) (g : GG) (k : Nat) (ci : Nat) (C : String) (T : u_T) (N : Nat) (arms : Int32) (hum : Int32) (hc : vwCl[ci]? = some (C, T, N)) : mt l g yX9_keen wsX9_keen rmX9_keen [.ref k, .int arms, .int hum] [cob k ci []] (some (.int ((3 * 2) + 2))) [cob k ci []] := by
  refine mt.of (cc := cX9_keen) (nL := 3) (ret := (some .int)) (own := RX9) (by decide +kernel) rfl rfl rfl (Nat.le_of_ble_eq_true rfl) (fun p e s m below meth c hf hr hlk _ hk hst hw ls hl => ?_)
  have hx := hf.1
  have hb := hf.2.1
  have hts := hf.2.2.2.2
  have hl : lv_has ls 3 [(0, .ref k), (1, .int arms), (2, .int hum)] := hl
  refine lv_aload_n hx hb dX9_keen_0 rfl (lv_at hl 0 rfl) ?_
  refine lv_iload_n hx hb dX9_keen_1 rfl (lv_at hl 1 rfl) ?_
  refine lv_iload_n hx hb dX9_keen_2 rfl (lv_at hl 2 rfl) ?_
  refine mcP hf hk hst hw (c_X5_keen l g k ci C T N arms hum hc) (va_cwSU 2 hts gX9_keen_X5_keen_s13 rfl rfl rfl hdP_X5_keen ⟨Nat.le_of_ble_eq_true rfl, Nat.le_of_ble_eq_true rfl⟩) [0] rfl rfl 0 rfl hc rfl hl.1 rfl (Nat.le_of_ble_eq_true rfl) dX9_keen_3 ⟨Nat.zero_le _, Nat.zero_le _⟩ (W' := [cob k ci []]) rfl (fun H locs hw => ?_)
  refine lv_iconst (v := 2) hx hb dX9_keen_6 (by decide) ?_
  refine lv_iadd hx hb dX9_keen_7 ?_
  exact re_i hf hr hlk hw (rfl) (rfl) dX9_keen_8
abbrev rmX1_keen : Room := { frames := 1, cells := 0, slots := 0, locals := 22 }
set_option maxHeartbeats 4000000 in
set_option maxRecDepth 100000 in
theorem c_X1_keen (l : Launch) (g : GG) (k : Nat) (ci : Nat) (C : String) (T : u_T) (N : Nat) (arms : Int32) (hum : Int32) (hc : vwCl[ci]? = some (C, T, N)) : mt l g yX1_keen wsX1_keen rmX1_keen [.ref k, .int arms, .int hum] [cob k ci []] (some (.int (3 + hum))) [cob k ci []] := by
  refine mt.of (cc := cX1_keen) (nL := 3) (ret := (some .int)) (own := RX1) (by decide +kernel) rfl rfl rfl (Nat.le_of_ble_eq_true rfl) (fun p e s m below meth c hf hr hlk _ hk hst hw ls hl => ?_)
  have hx := hf.1
  have hb := hf.2.1
  have hts := hf.2.2.2.2
  have hl : lv_has ls 3 [(0, .ref k), (1, .int arms), (2, .int hum)] := hl
  refine lv_aload_n hx hb dX1_keen_0 rfl (lv_at hl 0 rfl) ?_
  refine lv_iload_n hx hb dX1_keen_1 rfl (lv_at hl 1 rfl) ?_
  refine lv_iload_n hx hb dX1_keen_2 rfl (lv_at hl 2 rfl) ?_
  refine mcP hf hk hst hw (c_X4_keen l g k arms hum) (va_cwSU 2 hts gX1_keen_X4_keen_s9 rfl rfl rfl hdP_X4_keen ⟨Nat.le_of_ble_eq_true rfl, Nat.le_of_ble_eq_true rfl⟩) [] rfl rfl 0 rfl hc rfl hl.1 rfl (Nat.le_of_ble_eq_true rfl) dX1_keen_3 ⟨Nat.zero_le _, Nat.zero_le _⟩ (W' := [cob k ci []]) rfl (fun H locs hw => ?_)
  refine lv_iload_n hx hb dX1_keen_6 rfl (lv_at hl 2 rfl) ?_
  refine lv_iadd hx hb dX1_keen_7 ?_
  exact re_i hf hr hlk hw (rfl) (rfl) dX1_keen_8
abbrev rmX4_fears : Room := { frames := 0, cells := 0, slots := 0, locals := 0 }
set_option maxHeartbeats 4000000 in
set_option maxRecDepth 100000 in
theorem c_X4_fears (l : Launch) (g : GG) (k : Nat) (fog : Int32) : mt l g yX4_fears wsX4_fears rmX4_fears [.ref k, .int fog] [] (some (.int 2)) [] := by
  refine mt.of (cc := cX4_fears) (nL := 2) (ret := (some .int)) (own := RX4) (by decide +kernel) rfl rfl rfl (Nat.le_of_ble_eq_true rfl) (fun p e s m below meth c hf hr hlk _ hk hst hw ls hl => ?_)
  have hx := hf.1
  have hb := hf.2.1
  have hts := hf.2.2.2.2
  have hl : lv_has ls 2 [(0, .ref k), (1, .int fog)] := hl
  refine lv_iconst (v := 2) hx hb dX4_fears_0 (by decide) ?_
  exact re_i hf hr hlk hw (rfl) (rfl) dX4_fears_1
theorem hdP_X4_fears : yX4_fears.name ≠ "<init>" ∧ (parseMethodDescriptor yX4_fears.desc).map (fun d => d.parameters.length) = some 1 := by decide +kernel
abbrev rmX2_fears : Room := { frames := 1, cells := 0, slots := 0, locals := 21 }
set_option maxHeartbeats 4000000 in
set_option maxRecDepth 100000 in
theorem c_X2_fears (l : Launch) (g : GG) (k : Nat) (ci : Nat) (C : String) (T : u_T) (N : Nat) (fog : Int32) (hc : vwCl[ci]? = some (C, T, N)) : mt l g yX2_fears wsX2_fears rmX2_fears [.ref k, .int fog] [cob k ci []] (some (.int (2 - 3))) [cob k ci []] := by
  refine mt.of (cc := cX2_fears) (nL := 2) (ret := (some .int)) (own := RX2) (by decide +kernel) rfl rfl rfl (Nat.le_of_ble_eq_true rfl) (fun p e s m below meth c hf hr hlk _ hk hst hw ls hl => ?_)
  have hx := hf.1
  have hb := hf.2.1
  have hts := hf.2.2.2.2
  have hl : lv_has ls 2 [(0, .ref k), (1, .int fog)] := hl
  refine lv_aload_n hx hb dX2_fears_0 rfl (lv_at hl 0 rfl) ?_
  refine lv_iload_n hx hb dX2_fears_1 rfl (lv_at hl 1 rfl) ?_
  refine mcP hf hk hst hw (c_X4_fears l g k fog) (va_cwSU 1 hts gX2_fears_X4_fears_s17 rfl rfl rfl hdP_X4_fears ⟨Nat.le_of_ble_eq_true rfl, Nat.le_of_ble_eq_true rfl⟩) [] rfl rfl 0 rfl hc rfl hl.1 rfl (Nat.le_of_ble_eq_true rfl) dX2_fears_2 ⟨Nat.zero_le _, Nat.zero_le _⟩ (W' := [cob k ci []]) rfl (fun H locs hw => ?_)
  refine lv_iconst (v := 3) hx hb dX2_fears_5 (by decide) ?_
  refine lv_isub hx hb dX2_fears_6 ?_
  exact re_i hf hr hlk hw (rfl) (rfl) dX2_fears_7
theorem hdP_X2_fears : yX2_fears.name ≠ "<init>" ∧ (parseMethodDescriptor yX2_fears.desc).map (fun d => d.parameters.length) = some 1 := by decide +kernel
abbrev rmX6_fears : Room := { frames := 2, cells := 0, slots := 0, locals := 42 }
set_option maxHeartbeats 4000000 in
set_option maxRecDepth 100000 in
theorem c_X6_fears (l : Launch) (g : GG) (k : Nat) (ci : Nat) (C : String) (T : u_T) (N : Nat) (fog : Int32) (hc : vwCl[ci]? = some (C, T, N)) : mt l g yX6_fears wsX6_fears rmX6_fears [.ref k, .int fog] [cob k ci []] (some (.int ((2 - 3) + fog))) [cob k ci []] := by
  refine mt.of (cc := cX6_fears) (nL := 2) (ret := (some .int)) (own := RX6) (by decide +kernel) rfl rfl rfl (Nat.le_of_ble_eq_true rfl) (fun p e s m below meth c hf hr hlk _ hk hst hw ls hl => ?_)
  have hx := hf.1
  have hb := hf.2.1
  have hts := hf.2.2.2.2
  have hl : lv_has ls 2 [(0, .ref k), (1, .int fog)] := hl
  refine lv_aload_n hx hb dX6_fears_0 rfl (lv_at hl 0 rfl) ?_
  refine lv_iload_n hx hb dX6_fears_1 rfl (lv_at hl 1 rfl) ?_
  refine mcP hf hk hst hw (c_X2_fears l g k ci C T N fog hc) (va_cwSU 1 hts gX6_fears_X2_fears_s17 rfl rfl rfl hdP_X2_fears ⟨Nat.le_of_ble_eq_true rfl, Nat.le_of_ble_eq_true rfl⟩) [0] rfl rfl 0 rfl hc rfl hl.1 rfl (Nat.le_of_ble_eq_true rfl) dX6_fears_2 ⟨Nat.zero_le _, Nat.zero_le _⟩ (W' := [cob k ci []]) rfl (fun H locs hw => ?_)
  refine lv_iload_n hx hb dX6_fears_5 rfl (lv_at hl 1 rfl) ?_
  refine lv_iadd hx hb dX6_fears_6 ?_
  exact re_i hf hr hlk hw (rfl) (rfl) dX6_fears_7
abbrev rmX5_fears : Room := { frames := 1, cells := 0, slots := 0, locals := 21 }
set_option maxHeartbeats 4000000 in
set_option maxRecDepth 100000 in
theorem c_X5_fears (l : Launch) (g : GG) (k : Nat) (ci : Nat) (C : String) (T : u_T) (N : Nat) (fog : Int32) (hc : vwCl[ci]? = some (C, T, N)) : mt l g yX5_fears wsX5_fears rmX5_fears [.ref k, .int fog] [cob k ci []] (some (.int (2 + 1))) [cob k ci []] := by
  refine mt.of (cc := cX5_fears) (nL := 2) (ret := (some .int)) (own := RX5) (by decide +kernel) rfl rfl rfl (Nat.le_of_ble_eq_true rfl) (fun p e s m below meth c hf hr hlk _ hk hst hw ls hl => ?_)
  have hx := hf.1
  have hb := hf.2.1
  have hts := hf.2.2.2.2
  have hl : lv_has ls 2 [(0, .ref k), (1, .int fog)] := hl
  refine lv_aload_n hx hb dX5_fears_0 rfl (lv_at hl 0 rfl) ?_
  refine lv_iload_n hx hb dX5_fears_1 rfl (lv_at hl 1 rfl) ?_
  refine mcP hf hk hst hw (c_X4_fears l g k fog) (va_cwSU 1 hts gX5_fears_X4_fears_s17 rfl rfl rfl hdP_X4_fears ⟨Nat.le_of_ble_eq_true rfl, Nat.le_of_ble_eq_true rfl⟩) [] rfl rfl 0 rfl hc rfl hl.1 rfl (Nat.le_of_ble_eq_true rfl) dX5_fears_2 ⟨Nat.zero_le _, Nat.zero_le _⟩ (W' := [cob k ci []]) rfl (fun H locs hw => ?_)
  refine lv_iconst (v := 1) hx hb dX5_fears_5 (by decide) ?_
  refine lv_iadd hx hb dX5_fears_6 ?_
  exact re_i hf hr hlk hw (rfl) (rfl) dX5_fears_7
theorem hdP_X5_fears : yX5_fears.name ≠ "<init>" ∧ (parseMethodDescriptor yX5_fears.desc).map (fun d => d.parameters.length) = some 1 := by decide +kernel
abbrev rmX9_fears : Room := { frames := 2, cells := 0, slots := 0, locals := 42 }
set_option maxHeartbeats 4000000 in
set_option maxRecDepth 100000 in
theorem c_X9_fears (l : Launch) (g : GG) (k : Nat) (ci : Nat) (C : String) (T : u_T) (N : Nat) (fog : Int32) (hc : vwCl[ci]? = some (C, T, N)) : mt l g yX9_fears wsX9_fears rmX9_fears [.ref k, .int fog] [cob k ci []] (some (.int ((2 + 1) * 2))) [cob k ci []] := by
  refine mt.of (cc := cX9_fears) (nL := 2) (ret := (some .int)) (own := RX9) (by decide +kernel) rfl rfl rfl (Nat.le_of_ble_eq_true rfl) (fun p e s m below meth c hf hr hlk _ hk hst hw ls hl => ?_)
  have hx := hf.1
  have hb := hf.2.1
  have hts := hf.2.2.2.2
  have hl : lv_has ls 2 [(0, .ref k), (1, .int fog)] := hl
  refine lv_aload_n hx hb dX9_fears_0 rfl (lv_at hl 0 rfl) ?_
  refine lv_iload_n hx hb dX9_fears_1 rfl (lv_at hl 1 rfl) ?_
  refine mcP hf hk hst hw (c_X5_fears l g k ci C T N fog hc) (va_cwSU 1 hts gX9_fears_X5_fears_s17 rfl rfl rfl hdP_X5_fears ⟨Nat.le_of_ble_eq_true rfl, Nat.le_of_ble_eq_true rfl⟩) [0] rfl rfl 0 rfl hc rfl hl.1 rfl (Nat.le_of_ble_eq_true rfl) dX9_fears_2 ⟨Nat.zero_le _, Nat.zero_le _⟩ (W' := [cob k ci []]) rfl (fun H locs hw => ?_)
  refine lv_iconst (v := 2) hx hb dX9_fears_5 (by decide) ?_
  refine lv_imul hx hb dX9_fears_6 ?_
  exact re_i hf hr hlk hw (rfl) (rfl) dX9_fears_7
abbrev rmX1_fears : Room := { frames := 1, cells := 0, slots := 0, locals := 21 }
set_option maxHeartbeats 4000000 in
set_option maxRecDepth 100000 in
theorem c_X1_fears (l : Launch) (g : GG) (k : Nat) (ci : Nat) (C : String) (T : u_T) (N : Nat) (fog : Int32) (hc : vwCl[ci]? = some (C, T, N)) : mt l g yX1_fears wsX1_fears rmX1_fears [.ref k, .int fog] [cob k ci []] (some (.int (2 + 3))) [cob k ci []] := by
  refine mt.of (cc := cX1_fears) (nL := 2) (ret := (some .int)) (own := RX1) (by decide +kernel) rfl rfl rfl (Nat.le_of_ble_eq_true rfl) (fun p e s m below meth c hf hr hlk _ hk hst hw ls hl => ?_)
  have hx := hf.1
  have hb := hf.2.1
  have hts := hf.2.2.2.2
  have hl : lv_has ls 2 [(0, .ref k), (1, .int fog)] := hl
  refine lv_aload_n hx hb dX1_fears_0 rfl (lv_at hl 0 rfl) ?_
  refine lv_iload_n hx hb dX1_fears_1 rfl (lv_at hl 1 rfl) ?_
  refine mcP hf hk hst hw (c_X4_fears l g k fog) (va_cwSU 1 hts gX1_fears_X4_fears_s13 rfl rfl rfl hdP_X4_fears ⟨Nat.le_of_ble_eq_true rfl, Nat.le_of_ble_eq_true rfl⟩) [] rfl rfl 0 rfl hc rfl hl.1 rfl (Nat.le_of_ble_eq_true rfl) dX1_fears_2 ⟨Nat.zero_le _, Nat.zero_le _⟩ (W' := [cob k ci []]) rfl (fun H locs hw => ?_)
  refine lv_iconst (v := 3) hx hb dX1_fears_5 (by decide) ?_
  refine lv_iadd hx hb dX1_fears_6 ?_
  exact re_i hf hr hlk hw (rfl) (rfl) dX1_fears_7
abbrev rmX4_pace : Room := { frames := 0, cells := 0, slots := 0, locals := 0 }
set_option maxHeartbeats 4000000 in
set_option maxRecDepth 100000 in
theorem c_X4_pace (l : Launch) (g : GG) (k : Nat) (step : Int32) (sees : Int32) : mt l g yX4_pace wsX4_pace rmX4_pace [.ref k, .int step, .int sees] [] (some (.int 1)) [] := by
  refine mt.of (cc := cX4_pace) (nL := 3) (ret := (some .int)) (own := RX4) (by decide +kernel) rfl rfl rfl (Nat.le_of_ble_eq_true rfl) (fun p e s m below meth c hf hr hlk _ hk hst hw ls hl => ?_)
  have hx := hf.1
  have hb := hf.2.1
  have hts := hf.2.2.2.2
  have hl : lv_has ls 3 [(0, .ref k), (1, .int step), (2, .int sees)] := hl
  refine lv_iconst (v := 1) hx hb dX4_pace_0 (by decide) ?_
  exact re_i hf hr hlk hw (rfl) (rfl) dX4_pace_1
theorem hdP_X4_pace : yX4_pace.name ≠ "<init>" ∧ (parseMethodDescriptor yX4_pace.desc).map (fun d => d.parameters.length) = some 2 := by decide +kernel
abbrev rmX2_pace : Room := { frames := 1, cells := 0, slots := 0, locals := 22 }
set_option maxHeartbeats 4000000 in
set_option maxRecDepth 100000 in
theorem c_X2_pace (l : Launch) (g : GG) (k : Nat) (ci : Nat) (C : String) (T : u_T) (N : Nat) (step : Int32) (sees : Int32) (hc : vwCl[ci]? = some (C, T, N)) : mt l g yX2_pace wsX2_pace rmX2_pace [.ref k, .int step, .int sees] [cob k ci []] (some (.int (1 + 2))) [cob k ci []] := by
  refine mt.of (cc := cX2_pace) (nL := 3) (ret := (some .int)) (own := RX2) (by decide +kernel) rfl rfl rfl (Nat.le_of_ble_eq_true rfl) (fun p e s m below meth c hf hr hlk _ hk hst hw ls hl => ?_)
  have hx := hf.1
  have hb := hf.2.1
  have hts := hf.2.2.2.2
  have hl : lv_has ls 3 [(0, .ref k), (1, .int step), (2, .int sees)] := hl
  refine lv_aload_n hx hb dX2_pace_0 rfl (lv_at hl 0 rfl) ?_
  refine lv_iload_n hx hb dX2_pace_1 rfl (lv_at hl 1 rfl) ?_
  refine lv_iload_n hx hb dX2_pace_2 rfl (lv_at hl 2 rfl) ?_
  refine mcP hf hk hst hw (c_X4_pace l g k step sees) (va_cwSU 2 hts gX2_pace_X4_pace_s21 rfl rfl rfl hdP_X4_pace ⟨Nat.le_of_ble_eq_true rfl, Nat.le_of_ble_eq_true rfl⟩) [] rfl rfl 0 rfl hc rfl hl.1 rfl (Nat.le_of_ble_eq_true rfl) dX2_pace_3 ⟨Nat.zero_le _, Nat.zero_le _⟩ (W' := [cob k ci []]) rfl (fun H locs hw => ?_)
  refine lv_iconst (v := 2) hx hb dX2_pace_6 (by decide) ?_
  refine lv_iadd hx hb dX2_pace_7 ?_
  exact re_i hf hr hlk hw (rfl) (rfl) dX2_pace_8
theorem hdP_X2_pace : yX2_pace.name ≠ "<init>" ∧ (parseMethodDescriptor yX2_pace.desc).map (fun d => d.parameters.length) = some 2 := by decide +kernel
abbrev rmX6_pace : Room := { frames := 2, cells := 0, slots := 0, locals := 44 }
set_option maxHeartbeats 4000000 in
set_option maxRecDepth 100000 in
theorem c_X6_pace (l : Launch) (g : GG) (k : Nat) (ci : Nat) (C : String) (T : u_T) (N : Nat) (step : Int32) (sees : Int32) (hc : vwCl[ci]? = some (C, T, N)) : mt l g yX6_pace wsX6_pace rmX6_pace [.ref k, .int step, .int sees] [cob k ci []] (some (.int ((1 + 2) - 1))) [cob k ci []] := by
  refine mt.of (cc := cX6_pace) (nL := 3) (ret := (some .int)) (own := RX6) (by decide +kernel) rfl rfl rfl (Nat.le_of_ble_eq_true rfl) (fun p e s m below meth c hf hr hlk _ hk hst hw ls hl => ?_)
  have hx := hf.1
  have hb := hf.2.1
  have hts := hf.2.2.2.2
  have hl : lv_has ls 3 [(0, .ref k), (1, .int step), (2, .int sees)] := hl
  refine lv_aload_n hx hb dX6_pace_0 rfl (lv_at hl 0 rfl) ?_
  refine lv_iload_n hx hb dX6_pace_1 rfl (lv_at hl 1 rfl) ?_
  refine lv_iload_n hx hb dX6_pace_2 rfl (lv_at hl 2 rfl) ?_
  refine mcP hf hk hst hw (c_X2_pace l g k ci C T N step sees hc) (va_cwSU 2 hts gX6_pace_X2_pace_s21 rfl rfl rfl hdP_X2_pace ⟨Nat.le_of_ble_eq_true rfl, Nat.le_of_ble_eq_true rfl⟩) [0] rfl rfl 0 rfl hc rfl hl.1 rfl (Nat.le_of_ble_eq_true rfl) dX6_pace_3 ⟨Nat.zero_le _, Nat.zero_le _⟩ (W' := [cob k ci []]) rfl (fun H locs hw => ?_)
  refine lv_iconst (v := 1) hx hb dX6_pace_6 (by decide) ?_
  refine lv_isub hx hb dX6_pace_7 ?_
  exact re_i hf hr hlk hw (rfl) (rfl) dX6_pace_8
def f_X9_pace (step : Int32) : Int32 := if (step - step / 2 * 2) = 0 then 1 else 0
abbrev rmX9_pace : Room := { frames := 1, cells := 0, slots := 0, locals := 22 }
set_option maxHeartbeats 4000000 in
set_option maxRecDepth 100000 in
theorem c_X9_pace (l : Launch) (g : GG) (k : Nat) (ci : Nat) (C : String) (T : u_T) (N : Nat) (step : Int32) (sees : Int32) (hc : vwCl[ci]? = some (C, T, N)) : mt l g yX9_pace wsX9_pace rmX9_pace [.ref k, .int step, .int sees] [cob k ci []] (some (.int (f_X9_pace step))) [cob k ci []] := by
  refine mt.of (cc := cX9_pace) (nL := 3) (ret := (some .int)) (own := RX9) (by decide +kernel) rfl rfl rfl (Nat.le_of_ble_eq_true rfl) (fun p e s m below meth c hf hr hlk _ hk hst hw ls hl => ?_)
  have hx := hf.1
  have hb := hf.2.1
  have hts := hf.2.2.2.2
  have hl : lv_has ls 3 [(0, .ref k), (1, .int step), (2, .int sees)] := hl
  refine lv_iload_n hx hb dX9_pace_0 rfl (lv_at hl 1 rfl) ?_
  refine lv_iconst (v := 2) hx hb dX9_pace_1 (by decide) ?_
  refine lv_irem hx hb dX9_pace_2 (by decide) ?_
  refine lv_if_ne (tgt := 15) hx hb dX9_pace_3 (by decide) (fun c_1 => ?_) (fun c_1 => ?_)
  · refine lv_iconst (v := 0) hx hb dX9_pace_15 (by decide) ?_
    exact re_i hf hr hlk hw (by simp only [f_X9_pace, if_neg c_1]) (rfl) dX9_pace_16
  · refine lv_aload_n hx hb dX9_pace_6 rfl (lv_at hl 0 rfl) ?_
    refine lv_iload_n hx hb dX9_pace_7 rfl (lv_at hl 1 rfl) ?_
    refine lv_iload_n hx hb dX9_pace_8 rfl (lv_at hl 2 rfl) ?_
    refine mcQ (x := ⟨"LightMan$Mourner", "pace", "(IZ)I"⟩) (owner := "LightMan$Kind") hf hk hst hw (c_X4_pace l g k step sees) rfl (fun w h => List.mem_append_right _ (List.mem_append_left _ h)) rfl (List.mem_of_getElem? (i := 0) rfl) (List.mem_of_getElem? (i := 1) rfl) (List.mem_of_getElem? (i := 8) rfl) (List.mem_of_getElem? (i := 10) rfl) (List.mem_of_getElem? (i := 12) rfl) (List.mem_of_getElem? (i := 16) rfl) hdP_X4_pace rfl rfl ⟨Nat.le_of_ble_eq_true rfl, Nat.le_of_ble_eq_true rfl⟩ [] rfl rfl 0 rfl hc rfl hl.1 rfl (Nat.le_of_ble_eq_true rfl) dX9_pace_9 ⟨Nat.zero_le _, Nat.zero_le _⟩ (W' := [cob k ci []]) rfl (fun H locs hw => ?_)
    refine lv_goto (tgt := 16) hx hb dX9_pace_12 (by decide) ?_
    exact re_i hf hr hlk hw (by simp only [f_X9_pace, if_pos c_1]) (rfl) dX9_pace_16
def f_X1_pace (sees : Int32) : Int32 := if sees = 0 then (1 + 0) else (1 + 1)
abbrev rmX1_pace : Room := { frames := 1, cells := 0, slots := 0, locals := 22 }
set_option maxHeartbeats 4000000 in
set_option maxRecDepth 100000 in
theorem c_X1_pace (l : Launch) (g : GG) (k : Nat) (ci : Nat) (C : String) (T : u_T) (N : Nat) (step : Int32) (sees : Int32) (hc : vwCl[ci]? = some (C, T, N)) : mt l g yX1_pace wsX1_pace rmX1_pace [.ref k, .int step, .int sees] [cob k ci []] (some (.int (f_X1_pace sees))) [cob k ci []] := by
  refine mt.of (cc := cX1_pace) (nL := 3) (ret := (some .int)) (own := RX1) (by decide +kernel) rfl rfl rfl (Nat.le_of_ble_eq_true rfl) (fun p e s m below meth c hf hr hlk _ hk hst hw ls hl => ?_)
  have hx := hf.1
  have hb := hf.2.1
  have hts := hf.2.2.2.2
  have hl : lv_has ls 3 [(0, .ref k), (1, .int step), (2, .int sees)] := hl
  refine lv_aload_n hx hb dX1_pace_0 rfl (lv_at hl 0 rfl) ?_
  refine lv_iload_n hx hb dX1_pace_1 rfl (lv_at hl 1 rfl) ?_
  refine lv_iload_n hx hb dX1_pace_2 rfl (lv_at hl 2 rfl) ?_
  refine mcP hf hk hst hw (c_X4_pace l g k step sees) (va_cwSU 2 hts gX1_pace_X4_pace_s17 rfl rfl rfl hdP_X4_pace ⟨Nat.le_of_ble_eq_true rfl, Nat.le_of_ble_eq_true rfl⟩) [] rfl rfl 0 rfl hc rfl hl.1 rfl (Nat.le_of_ble_eq_true rfl) dX1_pace_3 ⟨Nat.zero_le _, Nat.zero_le _⟩ (W' := [cob k ci []]) rfl (fun H locs hw => ?_)
  refine lv_iload_n hx hb dX1_pace_6 rfl (lv_at hl 2 rfl) ?_
  refine lv_if_eq (tgt := 14) hx hb dX1_pace_7 (by decide) (fun c_1 => ?_) (fun c_1 => ?_)
  · refine lv_iconst (v := 0) hx hb dX1_pace_14 (by decide) ?_
    refine lv_iadd hx hb dX1_pace_15 ?_
    exact re_i hf hr hlk hw (by simp only [f_X1_pace, if_pos c_1]) (rfl) dX1_pace_16
  · refine lv_iconst (v := 1) hx hb dX1_pace_10 (by decide) ?_
    refine lv_goto (tgt := 15) hx hb dX1_pace_11 (by decide) ?_
    refine lv_iadd hx hb dX1_pace_15 ?_
    exact re_i hf hr hlk hw (by simp only [f_X1_pace, if_neg c_1]) (rfl) dX1_pace_16
