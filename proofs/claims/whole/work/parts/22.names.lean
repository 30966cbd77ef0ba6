/-! the texts' letters -/
theorem tq_8 {wi : Nat} (h : wi < 15) : tq_len.getD wi 0 < 8 := (show ∀ w, w < 15 → tq_len.getD w 0 < 8 by decide +kernel) wi h
theorem tq_c {wi k : Nat} (h : wi < 15) (hk : k < tq_len.getD wi 0) : (((((tq_byt.getD wi []).getD k 0) &&& 255).toUInt32 % 65536).toInt32) = (tq_byt.getD wi []).getD k 0 :=
  (show ∀ w, w < 15 → ∀ j, j < 8 → (((((tq_byt.getD w []).getD j 0) &&& 255).toUInt32 % 65536).toInt32) = (tq_byt.getD w []).getD j 0 by decide +kernel) wi h k (Nat.lt_trans hk (tq_8 h))
theorem tq_n {wi k : Nat} (h : wi < 15) (hk : k < tq_len.getD wi 0) : ((tq_byt.getD wi []).getD k 0).toUInt32.toUInt16.toUInt32.toInt32 = (tq_byt.getD wi []).getD k 0 :=
  (show ∀ w, w < 15 → ∀ j, j < 8 → ((tq_byt.getD w []).getD j 0).toUInt32.toUInt16.toUInt32.toInt32 = (tq_byt.getD w []).getD j 0 by decide +kernel) wi h k (Nat.lt_trans hk (tq_8 h))
theorem nI_sb {a b : Nat} (h : b ≤ a) : nI a - nI b = nI (a - b) := by
  have h1 : nI a = nI (a - b) + nI b := by rw [nI_add, Nat.sub_add_cancel h]
  rw [h1, Int32.add_sub_cancel]
/-- whether the bytes from ws on are the text's from j on, m letters -/
def nmL (byt : Nat → Int32) (ws wi : Nat) : Nat → Nat → Int32
  | 0, _ => 1
  | m + 1, j => if byt (ws + j) = (tq_byt.getD wi []).getD j 0 then nmL byt ws wi m (j + 1) else 0
def nmR (byt : Nat → Int32) (tso : Int32) (ws we wi : Nat) : Int32 := if tso = 1 then (if nI (we - ws) = nI (tq_len.getD wi 0) then nmL byt ws wi (tq_len.getD wi 0) 0 else 0) else 0
theorem nmL_z (byt : Nat → Int32) (ws wi : Nat) : ∀ m j : Nat, nmL byt ws wi m j = 0 ∨ nmL byt ws wi m j = 1
  | 0, _ => Or.inr rfl
  | m + 1, j => by
    unfold nmL
    split
    · exact nmL_z byt ws wi m (j + 1)
    · exact Or.inl rfl
theorem nmR_z (byt : Nat → Int32) (tso : Int32) (ws we wi : Nat) : nmR byt tso ws we wi = 0 ∨ nmR byt tso ws we wi = 1 := by
  unfold nmR
  split
  · split
    · exact nmL_z byt ws wi _ 0
    · exact Or.inl rfl
  · exact Or.inl rfl
abbrev rmJ3_checkIndex_8e157 : Room := { frames := 0, cells := 0, slots := 0, locals := 0 }
set_option maxHeartbeats 4000000 in
set_option maxRecDepth 100000 in
theorem c_J3_checkIndexN (l : Launch) (g : GG) (k : Nat) (n : Nat) (hkn : k < n) (hn : n < 100) : mt l g yJ3_checkIndex_8e157 wsJ3_checkIndex_8e157 rmJ3_checkIndex_8e157 [.int (nI k), .int (nI n), .null] [] (some (.int (nI k))) [] := by
  refine mt.of (cc := cJ3_checkIndex_8e157) (nL := 3) (ret := (some .int)) (own := RJ3) (by decide +kernel) rfl rfl (show ([] : List Nat) = [] from rfl) (Nat.le_of_ble_eq_true rfl) (fun p e s m below meth c hf hr hlk _ hk hst hw ls hl => ?_)
  have hx := hf.1
  have hb := hf.2.1
  have hts := hf.2.2.2.2
  have hl : lv_has ls 3 [(0, .int (nI k)), (1, .int (nI n)), (2, .null)] := hl
  refine lv_iload_n hx hb dJ3_checkIndex_8e157_0 rfl (lv_at hl 0 rfl) ?_
  refine lv_if_lt (tgt := 9) hx hb dJ3_checkIndex_8e157_1 (by decide) (fun q => absurd q (nI_pos (by omega))) (fun _ => ?_)
  refine lv_iload_n hx hb dJ3_checkIndex_8e157_4 rfl (lv_at hl 0 rfl) ?_
  refine lv_iload_n hx hb dJ3_checkIndex_8e157_5 rfl (lv_at hl 1 rfl) ?_
  refine lv_icmp_lt (tgt := 16) hx hb dJ3_checkIndex_8e157_6 (by decide) (fun _ => ?_) (fun q => absurd (nI_lt hkn (by omega)) q)
  refine lv_iload_n hx hb dJ3_checkIndex_8e157_16 rfl (lv_at hl 0 rfl) ?_
  exact re_i hf hr hlk hw (rfl) (rfl) dJ3_checkIndex_8e157_17
set_option maxHeartbeats 4000000 in
set_option maxRecDepth 100000 in
theorem c_J3_checkIndexR (l : Launch) (g : GG) (k : Nat) (n : Nat) (bt : Nat) (hkn : k < n) (hn : n < 100) : mt l g yJ3_checkIndex_8e157 wsJ3_checkIndex_8e157 rmJ3_checkIndex_8e157 [.int (nI k), .int (nI n), .ref bt] [] (some (.int (nI k))) [] := by
  refine mt.of (cc := cJ3_checkIndex_8e157) (nL := 3) (ret := (some .int)) (own := RJ3) (by decide +kernel) rfl rfl (show ([] : List Nat) = [] from rfl) (Nat.le_of_ble_eq_true rfl) (fun p e s m below meth c hf hr hlk _ hk hst hw ls hl => ?_)
  have hx := hf.1
  have hb := hf.2.1
  have hts := hf.2.2.2.2
  have hl : lv_has ls 3 [(0, .int (nI k)), (1, .int (nI n)), (2, .ref bt)] := hl
  refine lv_iload_n hx hb dJ3_checkIndex_8e157_0 rfl (lv_at hl 0 rfl) ?_
  refine lv_if_lt (tgt := 9) hx hb dJ3_checkIndex_8e157_1 (by decide) (fun q => absurd q (nI_pos (by omega))) (fun _ => ?_)
  refine lv_iload_n hx hb dJ3_checkIndex_8e157_4 rfl (lv_at hl 0 rfl) ?_
  refine lv_iload_n hx hb dJ3_checkIndex_8e157_5 rfl (lv_at hl 1 rfl) ?_
  refine lv_icmp_lt (tgt := 16) hx hb dJ3_checkIndex_8e157_6 (by decide) (fun _ => ?_) (fun q => absurd (nI_lt hkn (by omega)) q)
  refine lv_iload_n hx hb dJ3_checkIndex_8e157_16 rfl (lv_at hl 0 rfl) ?_
  exact re_i hf hr hlk hw (rfl) (rfl) dJ3_checkIndex_8e157_17
theorem hdS_J3_checkIndex_8e157 : yJ3_checkIndex_8e157.cls ≠ "java/lang/invoke/MethodHandle" ∧ yJ3_checkIndex_8e157.cls ≠ "java/lang/invoke/VarHandle" ∧ (parseMethodDescriptor yJ3_checkIndex_8e157.desc).map (fun d => d.parameters.length) = some 3 := by decide +kernel
abbrev rmJ0_checkIndex_df160 : Room := { frames := 1, cells := 0, slots := 0, locals := 22 }
set_option maxHeartbeats 4000000 in
set_option maxRecDepth 100000 in
theorem c_J0_checkIndex_df160 (l : Launch) (g : GG) (k : Nat) (n : Nat) (hkn : k < n) (hn : n < 100) : mt l g yJ0_checkIndex_df160 wsJ0_checkIndex_df160 rmJ0_checkIndex_df160 [.int (nI k), .int (nI n)] [] none [] := by
  refine mt.of (cc := cJ0_checkIndex_df160) (nL := 2) (ret := none) (own := RJ0) (by decide +kernel) rfl rfl (show ([] : List Nat) = [] from rfl) (Nat.le_of_ble_eq_true rfl) (fun p e s m below meth c hf hr hlk _ hk hst hw ls hl => ?_)
  have hx := hf.1
  have hb := hf.2.1
  have hts := hf.2.2.2.2
  have hl : lv_has ls 2 [(0, .int (nI k)), (1, .int (nI n))] := hl
  have w_0 : Cond.fieldLink RJ0 1053 "jdk/internal/util/Preconditions" "SIOOBE_FORMATTER" "Ljava/util/function/BiFunction;" ∈ wsJ0_checkIndex_df160 := List.mem_of_getElem? (i := 1) rfl
  refine lv_iload_n hx hb dJ0_checkIndex_df160_0 rfl (lv_at hl 0 rfl) ?_
  refine lv_iload_n hx hb dJ0_checkIndex_df160_1 rfl (lv_at hl 1 rfl) ?_
  rcases hst.2.2.2.2.2 with z_1 | ⟨bt, z_1⟩
  · refine va_gets hx hb z_1 hw.2.2 hf.2.2.2.1 (hts _ w_0) (fun _ h => h) dJ0_checkIndex_df160_2 ?_
    refine mcS hf hk hst hw (c_J3_checkIndexN l g k n (by omega) (by omega)) (va_cwS 3 hts gJ0_checkIndex_df160_J3_checkIndex_8e157 rfl rfl rfl hdS_J3_checkIndex_8e157 ⟨Nat.le_of_ble_eq_true rfl, Nat.le_of_ble_eq_true rfl⟩) [] rfl rfl rfl hl.1 rfl (Nat.le_of_ble_eq_true rfl) dJ0_checkIndex_df160_5 ⟨Nat.zero_le _, Nat.zero_le _⟩ (W' := []) rfl (fun H locs hw => ?_)
    refine lv_pop hx hb dJ0_checkIndex_df160_8 rfl ?_
    exact re_v hf hr hlk hw (rfl) dJ0_checkIndex_df160_9
  · refine va_gets hx hb z_1 hw.2.2 hf.2.2.2.1 (hts _ w_0) (fun _ h => h) dJ0_checkIndex_df160_2 ?_
    refine mcS hf hk hst hw (c_J3_checkIndexR l g k n bt (by omega) (by omega)) (va_cwS 3 hts gJ0_checkIndex_df160_J3_checkIndex_8e157 rfl rfl rfl hdS_J3_checkIndex_8e157 ⟨Nat.le_of_ble_eq_true rfl, Nat.le_of_ble_eq_true rfl⟩) [] rfl rfl rfl hl.1 rfl (Nat.le_of_ble_eq_true rfl) dJ0_checkIndex_df160_5 ⟨Nat.zero_le _, Nat.zero_le _⟩ (W' := []) rfl (fun H locs hw => ?_)
    refine lv_pop hx hb dJ0_checkIndex_df160_8 rfl ?_
    exact re_v hf hr hlk hw (rfl) dJ0_checkIndex_df160_9
theorem hdS_J0_checkIndex_df160 : yJ0_checkIndex_df160.cls ≠ "java/lang/invoke/MethodHandle" ∧ yJ0_checkIndex_df160.cls ≠ "java/lang/invoke/VarHandle" ∧ (parseMethodDescriptor yJ0_checkIndex_df160.desc).map (fun d => d.parameters.length) = some 2 := by decide +kernel
abbrev rmJ1_charAt_3b067 : Room := { frames := 2, cells := 0, slots := 0, locals := 43 }
set_option maxHeartbeats 4000000 in
set_option maxRecDepth 100000 in
theorem c_J1_charAt_3b067 (l : Launch) (g : GG) (wi : Nat) (k : Nat) (hw15 : wi < 15) (hkl : k < tq_len.getD wi 0) : mt l g yJ1_charAt_3b067 wsJ1_charAt_3b067 rmJ1_charAt_3b067 [.ref (gV g wi), .int (nI k)] [] (some (.int ((tq_byt.getD wi []).getD k 0))) [] := by
  refine mt.of (cc := cJ1_charAt_3b067) (nL := 2) (ret := (some .char)) (own := RJ1) (by decide +kernel) rfl rfl (show ([] : List Nat) = [] from rfl) (Nat.le_of_ble_eq_true rfl) (fun p e s m below meth c hf hr hlk _ hk hst hw ls hl => ?_)
  have hx := hf.1
  have hb := hf.2.1
  have hts := hf.2.2.2.2
  have hl : lv_has ls 2 [(0, .ref (gV g wi)), (1, .int (nI k))] := hl
  have h8 := tq_8 hw15
  refine lv_iload_n hx hb dJ1_charAt_3b067_0 rfl (lv_at hl 1 rfl) ?_
  refine lv_aload_n hx hb dJ1_charAt_3b067_1 rfl (lv_at hl 0 rfl) ?_
  refine va_tlen hx hb ((hst.2.2.2.2.1).1 wi hw15).2.2.2 hw.2.2 (v := nI (tq_len.getD wi 0)) rfl dJ1_charAt_3b067_2 ?_
  refine mcS hf hk hst hw (c_J0_checkIndex_df160 l g k (tq_len.getD wi 0) (by omega) (by omega)) (va_cwS 2 hts gJ1_charAt_3b067_J0_checkIndex_df160 rfl rfl rfl hdS_J0_checkIndex_df160 ⟨Nat.le_of_ble_eq_true rfl, Nat.le_of_ble_eq_true rfl⟩) [] rfl rfl rfl hl.1 rfl (Nat.le_of_ble_eq_true rfl) dJ1_charAt_3b067_3 ⟨Nat.zero_le _, Nat.zero_le _⟩ (W' := []) rfl (fun H locs hw => ?_)
  refine lv_aload_n hx hb dJ1_charAt_3b067_6 rfl (lv_at hl 0 rfl) ?_
  refine lv_iload_n hx hb dJ1_charAt_3b067_7 rfl (lv_at hl 1 rfl) ?_
  refine va_tb hx hb ((hst.2.2.2.2.1).1 wi hw15).2.2.2 hw.2.2 (v := .int ((tq_byt.getD wi []).getD k 0)) (vp_in_nI (by omega) (by omega)) (congrArg (fun j => Value.int ((tq_byt.getD wi []).getD j 0)) (nI_clamp (by omega))) dJ1_charAt_3b067_8 ?_
  refine lv_sipush (v := 255) hx hb dJ1_charAt_3b067_9 (by decide) ?_
  refine lv_iand hx hb dJ1_charAt_3b067_12 ?_
  refine lv_i2c hx hb dJ1_charAt_3b067_13 rfl ?_
  refine lv_tope (y := ((tq_byt.getD wi []).getD k 0)) (tq_c hw15 hkl) ?_
  exact re_t hf hr hlk hw (congrArg Value.int (tq_n hw15 hkl)) (rfl) (rfl) dJ1_charAt_3b067_14
theorem hdV_J0_isLatin1_aae02 : yJ0_isLatin1_aae02.cls = RJ0 ∧ yJ0_isLatin1_aae02.cls ≠ "java/lang/invoke/MethodHandle" ∧ yJ0_isLatin1_aae02.cls ≠ "java/lang/invoke/VarHandle" ∧ (parseMethodDescriptor yJ0_isLatin1_aae02.desc).map (fun d => d.parameters.length) = some 0 := by decide +kernel
theorem hdS_J1_charAt_3b067 : yJ1_charAt_3b067.cls ≠ "java/lang/invoke/MethodHandle" ∧ yJ1_charAt_3b067.cls ≠ "java/lang/invoke/VarHandle" ∧ (parseMethodDescriptor yJ1_charAt_3b067.desc).map (fun d => d.parameters.length) = some 2 := by decide +kernel
abbrev rmJ0_charAt_5068e : Room := { frames := 3, cells := 0, slots := 0, locals := 64 }
set_option maxHeartbeats 4000000 in
set_option maxRecDepth 100000 in
theorem c_J0_charAt_5068e (l : Launch) (g : GG) (wi : Nat) (k : Nat) (hw15 : wi < 15) (hkl : k < tq_len.getD wi 0) : mt l g yJ0_charAt_5068e wsJ0_charAt_5068e rmJ0_charAt_5068e [.ref (gA g wi), .int (nI k)] [] (some (.int ((tq_byt.getD wi []).getD k 0))) [] := by
  refine mt.of (cc := cJ0_charAt_5068e) (nL := 2) (ret := (some .char)) (own := RJ0) (by decide +kernel) rfl rfl (show ([] : List Nat) = [] from rfl) (Nat.le_of_ble_eq_true rfl) (fun p e s m below meth c hf hr hlk _ hk hst hw ls hl => ?_)
  have hx := hf.1
  have hb := hf.2.1
  have hts := hf.2.2.2.2
  have hl : lv_has ls 2 [(0, .ref (gA g wi)), (1, .int (nI k))] := hl
  have h8 := tq_8 hw15
  have w_0 : Cond.fieldLink RJ0 9 "java/lang/String" "value" "[B" ∈ wsJ0_charAt_5068e := List.mem_of_getElem? (i := 1) rfl
  refine lv_aload_n hx hb dJ0_charAt_5068e_0 rfl (lv_at hl 0 rfl) ?_
  refine mcT hf hk hst hw (c_J0_isLatin1_aae02 l g wi (hw15)) (cwV 0 hts gJ0_charAt_5068e_J0_isLatin1_aae02 rfl rfl rfl hdV_J0_isLatin1_aae02 ⟨Nat.le_of_ble_eq_true rfl, Nat.le_of_ble_eq_true rfl⟩) hw15 [] rfl rfl rfl hl.1 rfl (Nat.le_of_ble_eq_true rfl) dJ0_charAt_5068e_1 ⟨Nat.zero_le _, Nat.zero_le _⟩ (W' := []) rfl (fun H locs hw => ?_)
  refine lv_if_eq (tgt := 16) hx hb dJ0_charAt_5068e_4 (by decide) (fun q => absurd q (by decide)) (fun _ => ?_)
  refine lv_aload_n hx hb dJ0_charAt_5068e_7 rfl (lv_at hl 0 rfl) ?_
  refine vk_getf hx hb ((hst.2.2.2.2.1).1 wi hw15).2.2.1 hw.2.2 hf.2.2.2.1 (hts _ w_0) (fun _ h => h) dJ0_charAt_5068e_8 ?_
  refine lv_iload_n hx hb dJ0_charAt_5068e_11 rfl (lv_at hl 1 rfl) ?_
  refine mcS hf hk hst hw (c_J1_charAt_3b067 l g wi k (hw15) (hkl)) (va_cwS 2 hts gJ0_charAt_5068e_J1_charAt_3b067 rfl rfl rfl hdS_J1_charAt_3b067 ⟨Nat.le_of_ble_eq_true rfl, Nat.le_of_ble_eq_true rfl⟩) [] rfl rfl rfl hl.1 rfl (Nat.le_of_ble_eq_true rfl) dJ0_charAt_5068e_12 ⟨Nat.zero_le _, Nat.zero_le _⟩ (W' := []) rfl (fun H locs hw => ?_)
  exact re_t hf hr hlk hw (congrArg Value.int (tq_n hw15 hkl)) (rfl) (rfl) dJ0_charAt_5068e_15
theorem hdV_J0_length_8abf5 : yJ0_length_8abf5.cls = RJ0 ∧ yJ0_length_8abf5.cls ≠ "java/lang/invoke/MethodHandle" ∧ yJ0_length_8abf5.cls ≠ "java/lang/invoke/VarHandle" ∧ (parseMethodDescriptor yJ0_length_8abf5.desc).map (fun d => d.parameters.length) = some 0 := by decide +kernel
theorem hdV_J0_charAt_5068e : yJ0_charAt_5068e.cls = RJ0 ∧ yJ0_charAt_5068e.cls ≠ "java/lang/invoke/MethodHandle" ∧ yJ0_charAt_5068e.cls ≠ "java/lang/invoke/VarHandle" ∧ (parseMethodDescriptor yJ0_charAt_5068e.desc).map (fun d => d.parameters.length) = some 1 := by decide +kernel
abbrev rmX7_isName : Room := { frames := 4, cells := 0, slots := 0, locals := 85 }
set_option maxHeartbeats 4000000 in
set_option maxRecDepth 100000 in
theorem c_X7_isName (l : Launch) (g : GG) (ltp : Nat) (lby : Nat) (tsz : Nat) (tso : Int32) (ws : Nat) (we : Nat) (byt : Nat → Int32) (wi : Nat) (hwe : ws ≤ we) (hw2 : we ≤ 200) (hw15 : wi < 15) : mt l g yX7_isName wsX7_isName rmX7_isName [.ref ltp, .ref (gA g wi)] [cob ltp 7 [.ref lby, .int (nI tsz), .int tso, .int (nI ws), .int (nI we)], cby g lby 200 byt] (some (.int (nmR byt tso ws we wi))) [cob ltp 7 [.ref lby, .int (nI tsz), .int tso, .int (nI ws), .int (nI we)], cby g lby 200 byt] := by
  refine mt.of (cc := cX7_isName) (nL := 3) (ret := (some .boolean)) (own := RX7) (by decide +kernel) rfl rfl (show ([ltp, lby] : List Nat) = [ltp, lby] from rfl) (Nat.le_of_ble_eq_true rfl) (fun p e s m below meth c hf hr hlk _ hk hst hw ls hl => ?_)
  have hx := hf.1
  have hb := hf.2.1
  have hts := hf.2.2.2.2
  have hl : lv_has ls 3 [(0, .ref ltp), (1, .ref (gA g wi))] := hl
  have h8 := tq_8 hw15
  have hinX7 : ∀ w ∈ u_ws RX7 TX7 5, w ∈ wsX7_isName := fun w h => List.mem_cons_of_mem _ (List.mem_append_right _ h)
  have w_0 : Cond.fieldLink RX7 19 "LightMan$Tape" "sort" "I" ∈ wsX7_isName := List.mem_of_getElem? (i := 1) rfl
  have w_1 : Cond.fieldLink RX7 25 "LightMan$Tape" "end" "I" ∈ wsX7_isName := List.mem_of_getElem? (i := 2) rfl
  have w_2 : Cond.fieldLink RX7 22 "LightMan$Tape" "start" "I" ∈ wsX7_isName := List.mem_of_getElem? (i := 3) rfl
  have w_3 : Cond.fieldLink RX7 9 "LightMan$Tape" "bytes" "[B" ∈ wsX7_isName := List.mem_of_getElem? (i := 4) rfl
  refine lv_aload_n hx hb dX7_isName_0 rfl (lv_at hl 0 rfl) ?_
  refine rg hf hk hw hinX7 0 rfl rfl 2 (by decide) w_0 rfl dX7_isName_1 ?_
  refine lv_iconst (v := 1) hx hb dX7_isName_4 (by decide) ?_
  refine lv_icmp_ne (tgt := 24) hx hb dX7_isName_5 (by decide) (fun c_1 => ?_) (fun c_1 => ?_)
  · refine lv_iconst (v := 0) hx hb dX7_isName_24 (by decide) ?_
    exact re_z hf hr hlk hw (rfl) (by simp only [nmR, if_neg c_1]) (rfl) dX7_isName_25
  · refine lv_aload_n hx hb dX7_isName_8 rfl (lv_at hl 0 rfl) ?_
    refine rg hf hk hw hinX7 0 rfl rfl 4 (by decide) w_1 rfl dX7_isName_9 ?_
    refine lv_aload_n hx hb dX7_isName_12 rfl (lv_at hl 0 rfl) ?_
    refine rg hf hk hw hinX7 0 rfl rfl 3 (by decide) w_2 rfl dX7_isName_13 ?_
    refine lv_isub hx hb dX7_isName_16 ?_
    refine lv_tope (y := nI (we - ws)) (nI_sb hwe) ?_
    refine lv_aload_n hx hb dX7_isName_17 rfl (lv_at hl 1 rfl) ?_
    refine mcT hf hk hst hw (c_J0_length_8abf5 l g wi (hw15)) (cwV 0 hts gX7_isName_J0_length_8abf5 rfl rfl rfl hdV_J0_length_8abf5 ⟨Nat.le_of_ble_eq_true rfl, Nat.le_of_ble_eq_true rfl⟩) hw15 [] rfl rfl rfl hl.1 rfl (Nat.le_of_ble_eq_true rfl) dX7_isName_18 ⟨Nat.zero_le _, Nat.zero_le _⟩ (W' := [cob ltp 7 [.ref lby, .int (nI tsz), .int tso, .int (nI ws), .int (nI we)], cby g lby 200 byt]) rfl (fun H locs hw => ?_)
    refine lv_icmp_eq (tgt := 26) hx hb dX7_isName_21 (by decide) (fun c_2 => ?_) (fun c_2 => ?_)
    · have hln : we - ws = tq_len.getD wi 0 := (nI_eq (by omega) (by omega)).mp c_2
      refine lv_iconst (v := 0) hx hb dX7_isName_26 (by decide) ?_
      refine lv_istore_n (lv' := [(2, .int 0), (0, .ref ltp), (1, .ref (gA g wi))]) hx hb dX7_isName_27 rfl hl (by decide) rfl (fun ls hl => ?_)
      have lp_28_2 : ∀ (fu k : Nat), k ≤ (tq_len.getD wi 0) → (tq_len.getD wi 0) + 1 ≤ k + fu → (nmL byt ws wi (tq_len.getD wi 0) 0 = nmL byt ws wi (tq_len.getD wi 0 - k) k) → ∀ (H : Heap) (locs : List Loc), hv g (va_I [cob ltp 7 [.ref lby, .int (nI tsz), .int tso, .int (nI ws), .int (nI we)], cby g lby 200 byt]) s H locs [cob ltp 7 [.ref lby, .int (nI tsz), .int tso, .int (nI ws), .int (nI we)], cby g lby 200 byt] → ∀ ls : Array Slot, lv_has ls 3 [(2, .int (nI k)), (0, .ref ltp), (1, .ref (gA g wi))] → W p l e rmX7_isName s m ([.ref ltp, .ref (gA g wi)] : List Value).toArray below meth c H locs 0 0 (MQ below (mtQ g [cob ltp 7 [.ref lby, .int (nI tsz), .int tso, .int (nI ws), .int (nI we)], cby g lby 200 byt] (some (.int (nmR byt tso ws we wi))) [cob ltp 7 [.ref lby, .int (nI tsz), .int tso, .int (nI ws), .int (nI we)], cby g lby 200 byt]) ([.ref ltp, .ref (gA g wi)] : List Value).toArray s 0 0 (va_I [cob ltp 7 [.ref lby, .int (nI tsz), .int tso, .int (nI ws), .int (nI we)], cby g lby 200 byt])) (F0 m 28 ls []) := by
        intro fu
        induction fu with
        | zero =>
          intro k h1 h2
          exact absurd h2 (by omega)
        | succ fu ih_28 =>
          intro k hk1_28 hk2_28 eL H locs hw ls hl
          refine lv_iload_n hx hb dX7_isName_28 rfl (lv_at hl 0 rfl) ?_
          refine lv_aload_n hx hb dX7_isName_29 rfl (lv_at hl 2 rfl) ?_
          refine mcT hf hk hst hw (c_J0_length_8abf5 l g wi (hw15)) (cwV 0 hts gX7_isName_J0_length_8abf5 rfl rfl rfl hdV_J0_length_8abf5 ⟨Nat.le_of_ble_eq_true rfl, Nat.le_of_ble_eq_true rfl⟩) hw15 [] rfl rfl rfl hl.1 rfl (Nat.le_of_ble_eq_true rfl) dX7_isName_30 ⟨Nat.zero_le _, Nat.zero_le _⟩ (W' := [cob ltp 7 [.ref lby, .int (nI tsz), .int tso, .int (nI ws), .int (nI we)], cby g lby 200 byt]) rfl (fun H locs hw => ?_)
          refine lv_icmp_ge (tgt := 63) hx hb dX7_isName_33 (by decide) (fun c_4 => ?_) (fun c_4 => ?_)
          · have hkE : k = tq_len.getD wi 0 := Nat.le_antisymm hk1_28 ((nI_leI (by omega) (by omega)).mp c_4)
            have eL2 : nmL byt ws wi (tq_len.getD wi 0) 0 = 1 := by rw [eL, show tq_len.getD wi 0 - k = 0 by omega]; rfl
            refine lv_iconst (v := 1) hx hb dX7_isName_63 (by decide) ?_
            exact re_z hf hr hlk hw (rfl) (by simp only [nmR, if_pos c_1, if_pos c_2]; rw [eL2]) (rfl) dX7_isName_64
          · have hkl : k < tq_len.getD wi 0 := Nat.not_le.mp (fun h => c_4 ((nI_leI (by omega) (by omega)).mpr h))
            have hm : tq_len.getD wi 0 - k = (tq_len.getD wi 0 - (k + 1)) + 1 := by omega
            refine lv_aload_n hx hb dX7_isName_36 rfl (lv_at hl 1 rfl) ?_
            refine rg hf hk hw hinX7 0 rfl rfl 0 (by decide) w_3 rfl dX7_isName_37 ?_
            refine lv_aload_n hx hb dX7_isName_40 rfl (lv_at hl 1 rfl) ?_
            refine rg hf hk hw hinX7 0 rfl rfl 3 (by decide) w_2 rfl dX7_isName_41 ?_
            refine lv_iload_n hx hb dX7_isName_44 rfl (lv_at hl 0 rfl) ?_
            refine lv_iadd hx hb dX7_isName_45 ?_
            refine lv_tope (y := nI (ws + k)) (nI_add _ _) ?_
            refine rbj hf hk hw 1 rfl (j := ws + k) (vp_in_nI (by omega) (by omega)) (nI_clamp (by omega)) dX7_isName_46 ?_
            refine lv_aload_n hx hb dX7_isName_47 rfl (lv_at hl 2 rfl) ?_
            refine lv_iload_n hx hb dX7_isName_48 rfl (lv_at hl 0 rfl) ?_
            refine mcT hf hk hst hw (c_J0_charAt_5068e l g wi k (hw15) (hkl)) (cwV 1 hts gX7_isName_J0_charAt_5068e rfl rfl rfl hdV_J0_charAt_5068e ⟨Nat.le_of_ble_eq_true rfl, Nat.le_of_ble_eq_true rfl⟩) hw15 [] rfl rfl rfl hl.1 rfl (Nat.le_of_ble_eq_true rfl) dX7_isName_49 ⟨Nat.zero_le _, Nat.zero_le _⟩ (W' := [cob ltp 7 [.ref lby, .int (nI tsz), .int tso, .int (nI ws), .int (nI we)], cby g lby 200 byt]) rfl (fun H locs hw => ?_)
            refine lv_icmp_eq (tgt := 57) hx hb dX7_isName_52 (by decide) (fun c_5 => ?_) (fun c_5 => ?_)
            · have hstep : nmL byt ws wi (tq_len.getD wi 0 - (k + 1) + 1) k = nmL byt ws wi (tq_len.getD wi 0 - (k + 1)) (k + 1) := if_pos c_5
              refine lv_iinc (v := nI (k + 1)) (lv' := [(2, .int (nI (k + 1))), (0, .ref ltp), (1, .ref (gA g wi))]) hx hb dX7_isName_57 hl (k := 0) rfl (nI_1 _) (by decide) rfl (fun ls hl => ?_)
              refine lv_goto (tgt := 28) hx hb dX7_isName_60 (by decide) ?_
              exact ih_28 (k + 1) (by omega) (by omega) (by rw [eL, hm]; exact hstep) _ _ hw _ (lv_sub hl [0, 1, 2] rfl)
            · have eL2 : nmL byt ws wi (tq_len.getD wi 0) 0 = 0 := by rw [eL, hm]; exact if_neg c_5
              refine lv_iconst (v := 0) hx hb dX7_isName_55 (by decide) ?_
              exact re_z hf hr hlk hw (rfl) (by simp only [nmR, if_pos c_1, if_pos c_2]; rw [eL2]) (rfl) dX7_isName_56
      exact lp_28_2 ((tq_len.getD wi 0) + 1) 0 (by omega) (by omega) (rfl) _ _ hw _ (lv_sub hl [0, 1, 2] rfl)
    · refine lv_iconst (v := 0) hx hb dX7_isName_24 (by decide) ?_
      exact re_z hf hr hlk hw (rfl) (by simp only [nmR, if_pos c_1, if_neg c_2]) (rfl) dX7_isName_25
