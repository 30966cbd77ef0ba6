theorem hdV_X7_isName : yX7_isName.cls = RX7 ∧ yX7_isName.cls ≠ "java/lang/invoke/MethodHandle" ∧ yX7_isName.cls ≠ "java/lang/invoke/VarHandle" ∧ (parseMethodDescriptor yX7_isName.desc).map (fun d => d.parameters.length) = some 1 := by decide +kernel
def f_X7_kindNamed (tso : Int32) (ws : Nat) (we : Nat) (byt : Nat → Int32) : Int32 := if (nmR byt tso ws we 0) = 0 then (if (nmR byt tso ws we 1) = 0 then (if (nmR byt tso ws we 2) = 0 then (if (nmR byt tso ws we 3) = 0 then (if (nmR byt tso ws we 4) = 0 then (if (nmR byt tso ws we 5) = 0 then (-1) else 5) else 4) else 3) else 2) else 1) else 0
abbrev rmX7_kindNamed : Room := { frames := 5, cells := 0, slots := 0, locals := 107 }
set_option maxHeartbeats 4000000 in
set_option maxRecDepth 100000 in
theorem c_X7_kindNamed (l : Launch) (g : GG) (ltp : Nat) (lby : Nat) (tsz : Nat) (tso : Int32) (ws : Nat) (we : Nat) (byt : Nat → Int32) (hwe : ws ≤ we) (hw2 : we ≤ 200) : mt l g yX7_kindNamed wsX7_kindNamed rmX7_kindNamed [.ref ltp] [cob ltp 7 [.ref lby, .int (nI tsz), .int tso, .int (nI ws), .int (nI we)], cby g lby 200 byt] (some (.int (f_X7_kindNamed tso ws we byt))) [cob ltp 7 [.ref lby, .int (nI tsz), .int tso, .int (nI ws), .int (nI we)], cby g lby 200 byt] := by
  refine mt.of (cc := cX7_kindNamed) (nL := 1) (ret := (some .int)) (own := RX7) (by decide +kernel) rfl rfl (show ([ltp, lby] : List Nat) = [ltp, lby] from rfl) (Nat.le_of_ble_eq_true rfl) (fun p e s m below meth c hf hr hlk _ hk hst hw ls hl => ?_)
  have hx := hf.1
  have hb := hf.2.1
  have hts := hf.2.2.2.2
  have hl : lv_has ls 1 [(0, .ref ltp)] := hl
  refine lv_aload_n hx hb dX7_kindNamed_0 rfl (lv_at hl 0 rfl) ?_
  refine va_ldcS hx hb hf.2.2.2.1 (show vk_R RX7 111 "goer" (gA g 0) s from hk.2.2.2.1 0 (by decide)) dX7_kindNamed_1 ?_
  refine mcV hf hk hst hw (c_X7_isName l g ltp lby tsz tso ws we byt 0 (by omega) (by omega) (by decide)) (cwV 1 hts gX7_kindNamed_X7_isName rfl rfl rfl hdV_X7_isName ⟨Nat.le_of_ble_eq_true rfl, Nat.le_of_ble_eq_true rfl⟩) [0, 1] rfl rfl 0 rfl rfl rfl hl.1 rfl (Nat.le_of_ble_eq_true rfl) dX7_kindNamed_3 ⟨Nat.zero_le _, Nat.zero_le _⟩ (W' := [cob ltp 7 [.ref lby, .int (nI tsz), .int tso, .int (nI ws), .int (nI we)], cby g lby 200 byt]) rfl (fun H locs hw => ?_)
  refine lv_if_eq (tgt := 11) hx hb dX7_kindNamed_6 (by decide) (fun c_1 => ?_) (fun c_1 => ?_)
  · refine lv_aload_n hx hb dX7_kindNamed_11 rfl (lv_at hl 0 rfl) ?_
    refine va_ldcS hx hb hf.2.2.2.1 (show vk_R RX7 113 "driver" (gA g 1) s from hk.2.2.2.1 1 (by decide)) dX7_kindNamed_12 ?_
    refine mcV hf hk hst hw (c_X7_isName l g ltp lby tsz tso ws we byt 1 (by omega) (by omega) (by decide)) (cwV 1 hts gX7_kindNamed_X7_isName rfl rfl rfl hdV_X7_isName ⟨Nat.le_of_ble_eq_true rfl, Nat.le_of_ble_eq_true rfl⟩) [0, 1] rfl rfl 0 rfl rfl rfl hl.1 rfl (Nat.le_of_ble_eq_true rfl) dX7_kindNamed_14 ⟨Nat.zero_le _, Nat.zero_le _⟩ (W' := [cob ltp 7 [.ref lby, .int (nI tsz), .int tso, .int (nI ws), .int (nI we)], cby g lby 200 byt]) rfl (fun H locs hw => ?_)
    refine lv_if_eq (tgt := 22) hx hb dX7_kindNamed_17 (by decide) (fun c_2 => ?_) (fun c_2 => ?_)
    · refine lv_aload_n hx hb dX7_kindNamed_22 rfl (lv_at hl 0 rfl) ?_
      refine va_ldcS hx hb hf.2.2.2.1 (show vk_R RX7 115 "mourner" (gA g 2) s from hk.2.2.2.1 2 (by decide)) dX7_kindNamed_23 ?_
      refine mcV hf hk hst hw (c_X7_isName l g ltp lby tsz tso ws we byt 2 (by omega) (by omega) (by decide)) (cwV 1 hts gX7_kindNamed_X7_isName rfl rfl rfl hdV_X7_isName ⟨Nat.le_of_ble_eq_true rfl, Nat.le_of_ble_eq_true rfl⟩) [0, 1] rfl rfl 0 rfl rfl rfl hl.1 rfl (Nat.le_of_ble_eq_true rfl) dX7_kindNamed_25 ⟨Nat.zero_le _, Nat.zero_le _⟩ (W' := [cob ltp 7 [.ref lby, .int (nI tsz), .int tso, .int (nI ws), .int (nI we)], cby g lby 200 byt]) rfl (fun H locs hw => ?_)
      refine lv_if_eq (tgt := 33) hx hb dX7_kindNamed_28 (by decide) (fun c_3 => ?_) (fun c_3 => ?_)
      · refine lv_aload_n hx hb dX7_kindNamed_33 rfl (lv_at hl 0 rfl) ?_
        refine va_ldcS hx hb hf.2.2.2.1 (show vk_R RX7 117 "stoker" (gA g 3) s from hk.2.2.2.1 3 (by decide)) dX7_kindNamed_34 ?_
        refine mcV hf hk hst hw (c_X7_isName l g ltp lby tsz tso ws we byt 3 (by omega) (by omega) (by decide)) (cwV 1 hts gX7_kindNamed_X7_isName rfl rfl rfl hdV_X7_isName ⟨Nat.le_of_ble_eq_true rfl, Nat.le_of_ble_eq_true rfl⟩) [0, 1] rfl rfl 0 rfl rfl rfl hl.1 rfl (Nat.le_of_ble_eq_true rfl) dX7_kindNamed_36 ⟨Nat.zero_le _, Nat.zero_le _⟩ (W' := [cob ltp 7 [.ref lby, .int (nI tsz), .int tso, .int (nI ws), .int (nI we)], cby g lby 200 byt]) rfl (fun H locs hw => ?_)
        refine lv_if_eq (tgt := 44) hx hb dX7_kindNamed_39 (by decide) (fun c_4 => ?_) (fun c_4 => ?_)
        · refine lv_aload_n hx hb dX7_kindNamed_44 rfl (lv_at hl 0 rfl) ?_
          refine va_ldcS hx hb hf.2.2.2.1 (show vk_R RX7 119 "widow" (gA g 4) s from hk.2.2.2.1 4 (by decide)) dX7_kindNamed_45 ?_
          refine mcV hf hk hst hw (c_X7_isName l g ltp lby tsz tso ws we byt 4 (by omega) (by omega) (by decide)) (cwV 1 hts gX7_kindNamed_X7_isName rfl rfl rfl hdV_X7_isName ⟨Nat.le_of_ble_eq_true rfl, Nat.le_of_ble_eq_true rfl⟩) [0, 1] rfl rfl 0 rfl rfl rfl hl.1 rfl (Nat.le_of_ble_eq_true rfl) dX7_kindNamed_47 ⟨Nat.zero_le _, Nat.zero_le _⟩ (W' := [cob ltp 7 [.ref lby, .int (nI tsz), .int tso, .int (nI ws), .int (nI we)], cby g lby 200 byt]) rfl (fun H locs hw => ?_)
          refine lv_if_eq (tgt := 55) hx hb dX7_kindNamed_50 (by decide) (fun c_5 => ?_) (fun c_5 => ?_)
          · refine lv_aload_n hx hb dX7_kindNamed_55 rfl (lv_at hl 0 rfl) ?_
            refine va_ldcS hx hb hf.2.2.2.1 (show vk_R RX7 121 "child" (gA g 5) s from hk.2.2.2.1 5 (by decide)) dX7_kindNamed_56 ?_
            refine mcV hf hk hst hw (c_X7_isName l g ltp lby tsz tso ws we byt 5 (by omega) (by omega) (by decide)) (cwV 1 hts gX7_kindNamed_X7_isName rfl rfl rfl hdV_X7_isName ⟨Nat.le_of_ble_eq_true rfl, Nat.le_of_ble_eq_true rfl⟩) [0, 1] rfl rfl 0 rfl rfl rfl hl.1 rfl (Nat.le_of_ble_eq_true rfl) dX7_kindNamed_58 ⟨Nat.zero_le _, Nat.zero_le _⟩ (W' := [cob ltp 7 [.ref lby, .int (nI tsz), .int tso, .int (nI ws), .int (nI we)], cby g lby 200 byt]) rfl (fun H locs hw => ?_)
            refine lv_if_eq (tgt := 68) hx hb dX7_kindNamed_61 (by decide) (fun c_6 => ?_) (fun c_6 => ?_)
            · refine lv_iconst (v := (-1)) hx hb dX7_kindNamed_68 (by decide) ?_
              exact re_i hf hr hlk hw (by simp only [f_X7_kindNamed, if_pos c_1, if_pos c_2, if_pos c_3, if_pos c_4, if_pos c_5, if_pos c_6]) (rfl) dX7_kindNamed_69
            · refine lv_iconst (v := 5) hx hb dX7_kindNamed_64 (by decide) ?_
              refine lv_goto (tgt := 69) hx hb dX7_kindNamed_65 (by decide) ?_
              exact re_i hf hr hlk hw (by simp only [f_X7_kindNamed, if_pos c_1, if_pos c_2, if_pos c_3, if_pos c_4, if_pos c_5, if_neg c_6]) (rfl) dX7_kindNamed_69
          · refine lv_iconst (v := 4) hx hb dX7_kindNamed_53 (by decide) ?_
            exact re_i hf hr hlk hw (by simp only [f_X7_kindNamed, if_pos c_1, if_pos c_2, if_pos c_3, if_pos c_4, if_neg c_5]) (rfl) dX7_kindNamed_54
        · refine lv_iconst (v := 3) hx hb dX7_kindNamed_42 (by decide) ?_
          exact re_i hf hr hlk hw (by simp only [f_X7_kindNamed, if_pos c_1, if_pos c_2, if_pos c_3, if_neg c_4]) (rfl) dX7_kindNamed_43
      · refine lv_iconst (v := 2) hx hb dX7_kindNamed_31 (by decide) ?_
        exact re_i hf hr hlk hw (by simp only [f_X7_kindNamed, if_pos c_1, if_pos c_2, if_neg c_3]) (rfl) dX7_kindNamed_32
    · refine lv_iconst (v := 1) hx hb dX7_kindNamed_20 (by decide) ?_
      exact re_i hf hr hlk hw (by simp only [f_X7_kindNamed, if_pos c_1, if_neg c_2]) (rfl) dX7_kindNamed_21
  · refine lv_iconst (v := 0) hx hb dX7_kindNamed_9 (by decide) ?_
    exact re_i hf hr hlk hw (by simp only [f_X7_kindNamed, if_neg c_1]) (rfl) dX7_kindNamed_10
def f_X7_lawNamed (tso : Int32) (ws : Nat) (we : Nat) (byt : Nat → Int32) : Int32 := if (nmR byt tso ws we 8) = 0 then (if (nmR byt tso ws we 9) = 0 then (if (nmR byt tso ws we 10) = 0 then (if (nmR byt tso ws we 11) = 0 then (-1) else 3) else 2) else 1) else 0
abbrev rmX7_lawNamed : Room := { frames := 5, cells := 0, slots := 0, locals := 107 }
set_option maxHeartbeats 4000000 in
set_option maxRecDepth 100000 in
theorem c_X7_lawNamed (l : Launch) (g : GG) (ltp : Nat) (lby : Nat) (tsz : Nat) (tso : Int32) (ws : Nat) (we : Nat) (byt : Nat → Int32) (hwe : ws ≤ we) (hw2 : we ≤ 200) : mt l g yX7_lawNamed wsX7_lawNamed rmX7_lawNamed [.ref ltp] [cob ltp 7 [.ref lby, .int (nI tsz), .int tso, .int (nI ws), .int (nI we)], cby g lby 200 byt] (some (.int (f_X7_lawNamed tso ws we byt))) [cob ltp 7 [.ref lby, .int (nI tsz), .int tso, .int (nI ws), .int (nI we)], cby g lby 200 byt] := by
  refine mt.of (cc := cX7_lawNamed) (nL := 1) (ret := (some .int)) (own := RX7) (by decide +kernel) rfl rfl (show ([ltp, lby] : List Nat) = [ltp, lby] from rfl) (Nat.le_of_ble_eq_true rfl) (fun p e s m below meth c hf hr hlk _ hk hst hw ls hl => ?_)
  have hx := hf.1
  have hb := hf.2.1
  have hts := hf.2.2.2.2
  have hl : lv_has ls 1 [(0, .ref ltp)] := hl
  refine lv_aload_n hx hb dX7_lawNamed_0 rfl (lv_at hl 0 rfl) ?_
  refine va_ldcS hx hb hf.2.2.2.1 (show vk_R RX7 123 "hum" (gA g 8) s from hk.2.2.2.1 8 (by decide)) dX7_lawNamed_1 ?_
  refine mcV hf hk hst hw (c_X7_isName l g ltp lby tsz tso ws we byt 8 (by omega) (by omega) (by decide)) (cwV 1 hts gX7_lawNamed_X7_isName rfl rfl rfl hdV_X7_isName ⟨Nat.le_of_ble_eq_true rfl, Nat.le_of_ble_eq_true rfl⟩) [0, 1] rfl rfl 0 rfl rfl rfl hl.1 rfl (Nat.le_of_ble_eq_true rfl) dX7_lawNamed_3 ⟨Nat.zero_le _, Nat.zero_le _⟩ (W' := [cob ltp 7 [.ref lby, .int (nI tsz), .int tso, .int (nI ws), .int (nI we)], cby g lby 200 byt]) rfl (fun H locs hw => ?_)
  refine lv_if_eq (tgt := 11) hx hb dX7_lawNamed_6 (by decide) (fun c_1 => ?_) (fun c_1 => ?_)
  · refine lv_aload_n hx hb dX7_lawNamed_11 rfl (lv_at hl 0 rfl) ?_
    refine va_ldcS hx hb hf.2.2.2.1 (show vk_R RX7 125 "dread" (gA g 9) s from hk.2.2.2.1 9 (by decide)) dX7_lawNamed_12 ?_
    refine mcV hf hk hst hw (c_X7_isName l g ltp lby tsz tso ws we byt 9 (by omega) (by omega) (by decide)) (cwV 1 hts gX7_lawNamed_X7_isName rfl rfl rfl hdV_X7_isName ⟨Nat.le_of_ble_eq_true rfl, Nat.le_of_ble_eq_true rfl⟩) [0, 1] rfl rfl 0 rfl rfl rfl hl.1 rfl (Nat.le_of_ble_eq_true rfl) dX7_lawNamed_14 ⟨Nat.zero_le _, Nat.zero_le _⟩ (W' := [cob ltp 7 [.ref lby, .int (nI tsz), .int tso, .int (nI ws), .int (nI we)], cby g lby 200 byt]) rfl (fun H locs hw => ?_)
    refine lv_if_eq (tgt := 22) hx hb dX7_lawNamed_17 (by decide) (fun c_2 => ?_) (fun c_2 => ?_)
    · refine lv_aload_n hx hb dX7_lawNamed_22 rfl (lv_at hl 0 rfl) ?_
      refine va_ldcS hx hb hf.2.2.2.1 (show vk_R RX7 127 "love" (gA g 10) s from hk.2.2.2.1 10 (by decide)) dX7_lawNamed_23 ?_
      refine mcV hf hk hst hw (c_X7_isName l g ltp lby tsz tso ws we byt 10 (by omega) (by omega) (by decide)) (cwV 1 hts gX7_lawNamed_X7_isName rfl rfl rfl hdV_X7_isName ⟨Nat.le_of_ble_eq_true rfl, Nat.le_of_ble_eq_true rfl⟩) [0, 1] rfl rfl 0 rfl rfl rfl hl.1 rfl (Nat.le_of_ble_eq_true rfl) dX7_lawNamed_25 ⟨Nat.zero_le _, Nat.zero_le _⟩ (W' := [cob ltp 7 [.ref lby, .int (nI tsz), .int tso, .int (nI ws), .int (nI we)], cby g lby 200 byt]) rfl (fun H locs hw => ?_)
      refine lv_if_eq (tgt := 33) hx hb dX7_lawNamed_28 (by decide) (fun c_3 => ?_) (fun c_3 => ?_)
      · refine lv_aload_n hx hb dX7_lawNamed_33 rfl (lv_at hl 0 rfl) ?_
        refine va_ldcS hx hb hf.2.2.2.1 (show vk_R RX7 129 "lamp" (gA g 11) s from hk.2.2.2.1 11 (by decide)) dX7_lawNamed_34 ?_
        refine mcV hf hk hst hw (c_X7_isName l g ltp lby tsz tso ws we byt 11 (by omega) (by omega) (by decide)) (cwV 1 hts gX7_lawNamed_X7_isName rfl rfl rfl hdV_X7_isName ⟨Nat.le_of_ble_eq_true rfl, Nat.le_of_ble_eq_true rfl⟩) [0, 1] rfl rfl 0 rfl rfl rfl hl.1 rfl (Nat.le_of_ble_eq_true rfl) dX7_lawNamed_36 ⟨Nat.zero_le _, Nat.zero_le _⟩ (W' := [cob ltp 7 [.ref lby, .int (nI tsz), .int tso, .int (nI ws), .int (nI we)], cby g lby 200 byt]) rfl (fun H locs hw => ?_)
        refine lv_if_eq (tgt := 46) hx hb dX7_lawNamed_39 (by decide) (fun c_4 => ?_) (fun c_4 => ?_)
        · refine lv_iconst (v := (-1)) hx hb dX7_lawNamed_46 (by decide) ?_
          exact re_i hf hr hlk hw (by simp only [f_X7_lawNamed, if_pos c_1, if_pos c_2, if_pos c_3, if_pos c_4]) (rfl) dX7_lawNamed_47
        · refine lv_iconst (v := 3) hx hb dX7_lawNamed_42 (by decide) ?_
          refine lv_goto (tgt := 47) hx hb dX7_lawNamed_43 (by decide) ?_
          exact re_i hf hr hlk hw (by simp only [f_X7_lawNamed, if_pos c_1, if_pos c_2, if_pos c_3, if_neg c_4]) (rfl) dX7_lawNamed_47
      · refine lv_iconst (v := 2) hx hb dX7_lawNamed_31 (by decide) ?_
        exact re_i hf hr hlk hw (by simp only [f_X7_lawNamed, if_pos c_1, if_pos c_2, if_neg c_3]) (rfl) dX7_lawNamed_32
    · refine lv_iconst (v := 1) hx hb dX7_lawNamed_20 (by decide) ?_
      exact re_i hf hr hlk hw (by simp only [f_X7_lawNamed, if_pos c_1, if_neg c_2]) (rfl) dX7_lawNamed_21
  · refine lv_iconst (v := 0) hx hb dX7_lawNamed_9 (by decide) ?_
    exact re_i hf hr hlk hw (by simp only [f_X7_lawNamed, if_neg c_1]) (rfl) dX7_lawNamed_10
theorem skB_b (byt : Nat → Int32) {tsz : Nat} (ht : tsz ≤ 200) : ∀ m j : Nat, j ≤ tsz → j ≤ skB byt tsz m j ∧ skB byt tsz m j ≤ tsz
  | 0, j, h => ⟨Nat.le_refl _, h⟩
  | m + 1, j, h => by
    unfold skB
    split
    · exact ⟨Nat.le_refl _, h⟩
    · rename_i h1
      have hlt : j < tsz := Nat.not_le.mp (fun h2 => h1 ((nI_leI (by omega) (by omega)).mpr h2))
      split
      · exact ⟨Nat.le_trans (Nat.le_succ j) (skB_b byt ht m (j + 1) hlt).1, (skB_b byt ht m (j + 1) hlt).2⟩
      · exact ⟨Nat.le_refl _, h⟩
theorem enB_b (byt : Nat → Int32) {tsz : Nat} (so : Int32) (ht : tsz ≤ 200) : ∀ m j : Nat, j ≤ tsz → j ≤ enB byt tsz so m j ∧ enB byt tsz so m j ≤ tsz
  | 0, j, h => ⟨Nat.le_refl _, h⟩
  | m + 1, j, h => by
    unfold enB
    split
    · exact ⟨Nat.le_refl _, h⟩
    · rename_i h1
      have hlt : j < tsz := Nat.not_le.mp (fun h2 => h1 ((nI_leI (by omega) (by omega)).mpr h2))
      split
      · exact ⟨Nat.le_trans (Nat.le_succ j) (enB_b byt so ht m (j + 1) hlt).1, (enB_b byt so ht m (j + 1) hlt).2⟩
      · exact ⟨Nat.le_refl _, h⟩
theorem wdS_b (byt : Nat → Int32) {tsz we : Nat} (ht : tsz ≤ 200) (h : we ≤ tsz) : we ≤ wdS byt tsz we ∧ wdS byt tsz we ≤ tsz := skB_b byt ht _ we h
theorem wdE_b (byt : Nat → Int32) {tsz we : Nat} (ht : tsz ≤ 200) (h : we ≤ tsz) : wdS byt tsz we ≤ wdE byt tsz we ∧ wdE byt tsz we ≤ tsz := by
  have hS := wdS_b byt ht h
  unfold wdE
  split
  · rename_i h1
    have hlt : wdS byt tsz we < tsz := (nI_ltI (by omega) (by omega)).mp h1
    split
    · exact ⟨Nat.le_succ _, hlt⟩
    · have h3 := enB_b byt (sortB (byt (wdS byt tsz we))) ht (tsz - (wdS byt tsz we + 1) + 1) (wdS byt tsz we + 1) hlt
      exact ⟨Nat.le_trans (Nat.le_succ _) h3.1, h3.2⟩
  · exact ⟨Nat.le_refl _, hS.2⟩
/-- a word with no sort but the sign's stands within the text -/
theorem wdO_b (byt : Nat → Int32) {tsz we : Nat} (ht : tsz ≤ 200) (h : we ≤ tsz) : wdS byt tsz we < 200 ∨ ¬ wdO byt tsz we = 3 := by
  have hS := wdS_b byt ht h
  unfold wdO
  split
  · rename_i h1
    have hlt : wdS byt tsz we < tsz := (nI_ltI (by omega) (by omega)).mp h1
    exact Or.inl (by omega)
  · exact Or.inr (by decide)
/-- the number that k bytes from a on tell -/
def vnR (byt : Nat → Int32) (a : Nat) : Nat → Int32
  | 0 => 0
  | k + 1 => vnR byt a k * 10 + byt (a + k) - 48
def rdN (byt : Nat → Int32) (tsz we : Nat) (most : Int32) : Int32 := if wdO byt tsz we = 2 then (if nI (wdE byt tsz we - wdS byt tsz we) ≤ 3 then (if vnR byt (wdS byt tsz we) (wdE byt tsz we - wdS byt tsz we) ≤ most then vnR byt (wdS byt tsz we) (wdE byt tsz we - wdS byt tsz we) else -1) else -1) else -1
theorem hdV_X7_readWord : yX7_readWord.cls = RX7 ∧ yX7_readWord.cls ≠ "java/lang/invoke/MethodHandle" ∧ yX7_readWord.cls ≠ "java/lang/invoke/VarHandle" ∧ (parseMethodDescriptor yX7_readWord.desc).map (fun d => d.parameters.length) = some 0 := by decide +kernel
abbrev rmX7_readNumber : Room := { frames := 2, cells := 0, slots := 0, locals := 41 }
set_option maxHeartbeats 4000000 in
set_option maxRecDepth 100000 in
theorem c_X7_readNumber (l : Launch) (g : GG) (ltp : Nat) (lby : Nat) (tsz : Nat) (tso : Int32) (ws : Nat) (we : Nat) (byt : Nat → Int32) (most : Int32) (hwe : we ≤ tsz) (htz : tsz ≤ 200) : mt l g yX7_readNumber wsX7_readNumber rmX7_readNumber [.ref ltp, .int most] [cob ltp 7 [.ref lby, .int (nI tsz), .int tso, .int (nI ws), .int (nI we)], cby g lby 200 byt] (some (.int (rdN byt tsz we most))) [cob ltp 7 [.ref lby, .int (nI tsz), .int (wdO byt tsz we), .int (nI (wdS byt tsz we)), .int (nI (wdE byt tsz we))], cby g lby 200 byt] := by
  refine mt.of (cc := cX7_readNumber) (nL := 4) (ret := (some .int)) (own := RX7) (by decide +kernel) rfl rfl (show ([ltp, lby] : List Nat) = [ltp, lby] from rfl) (Nat.le_of_ble_eq_true rfl) (fun p e s m below meth c hf hr hlk _ hk hst hw ls hl => ?_)
  have hx := hf.1
  have hb := hf.2.1
  have hts := hf.2.2.2.2
  have hl : lv_has ls 4 [(0, .ref ltp), (1, .int most)] := hl
  have hS := wdS_b byt htz hwe
  have hE := wdE_b byt htz hwe
  have hinX7 : ∀ w ∈ u_ws RX7 TX7 5, w ∈ wsX7_readNumber := fun w h => List.mem_cons_of_mem _ (List.mem_append_right _ h)
  have w_0 : Cond.fieldLink RX7 19 "LightMan$Tape" "sort" "I" ∈ wsX7_readNumber := List.mem_of_getElem? (i := 1) rfl
  have w_1 : Cond.fieldLink RX7 25 "LightMan$Tape" "end" "I" ∈ wsX7_readNumber := List.mem_of_getElem? (i := 2) rfl
  have w_2 : Cond.fieldLink RX7 22 "LightMan$Tape" "start" "I" ∈ wsX7_readNumber := List.mem_of_getElem? (i := 3) rfl
  have w_3 : Cond.fieldLink RX7 9 "LightMan$Tape" "bytes" "[B" ∈ wsX7_readNumber := List.mem_of_getElem? (i := 4) rfl
  refine lv_aload_n hx hb dX7_readNumber_0 rfl (lv_at hl 0 rfl) ?_
  refine mcV hf hk hst hw (c_X7_readWord l g ltp lby tsz tso we byt (nI ws) (by omega) (by omega)) (cwV 0 hts gX7_readNumber_X7_readWord rfl rfl rfl hdV_X7_readWord ⟨Nat.le_of_ble_eq_true rfl, Nat.le_of_ble_eq_true rfl⟩) [0, 1] rfl rfl 0 rfl rfl rfl hl.1 rfl (Nat.le_of_ble_eq_true rfl) dX7_readNumber_1 ⟨Nat.zero_le _, Nat.zero_le _⟩ (W' := [cob ltp 7 [.ref lby, .int (nI tsz), .int (wdO byt tsz we), .int (nI (wdS byt tsz we)), .int (nI (wdE byt tsz we))], cby g lby 200 byt]) rfl (fun H locs hw => ?_)
  refine lv_aload_n hx hb dX7_readNumber_4 rfl (lv_at hl 0 rfl) ?_
  refine rg hf hk hw hinX7 0 rfl rfl 2 (by decide) w_0 rfl dX7_readNumber_5 ?_
  refine lv_iconst (v := 2) hx hb dX7_readNumber_8 (by decide) ?_
  refine lv_icmp_ne (tgt := 25) hx hb dX7_readNumber_9 (by decide) (fun c_1 => ?_) (fun c_1 => ?_)
  · refine lv_iconst (v := (-1)) hx hb dX7_readNumber_25 (by decide) ?_
    exact re_i hf hr hlk hw (by simp only [rdN, if_neg c_1]) (rfl) dX7_readNumber_26
  · refine lv_aload_n hx hb dX7_readNumber_12 rfl (lv_at hl 0 rfl) ?_
    refine rg hf hk hw hinX7 0 rfl rfl 4 (by decide) w_1 rfl dX7_readNumber_13 ?_
    refine lv_aload_n hx hb dX7_readNumber_16 rfl (lv_at hl 0 rfl) ?_
    refine rg hf hk hw hinX7 0 rfl rfl 3 (by decide) w_2 rfl dX7_readNumber_17 ?_
    refine lv_isub hx hb dX7_readNumber_20 ?_
    refine lv_tope (y := nI (wdE byt tsz we - wdS byt tsz we)) (nI_sb hE.1) ?_
    refine lv_iconst (v := 3) hx hb dX7_readNumber_21 (by decide) ?_
    refine lv_icmp_le (tgt := 27) hx hb dX7_readNumber_22 (by decide) (fun c_2 => ?_) (fun c_2 => ?_)
    · refine lv_iconst (v := 0) hx hb dX7_readNumber_27 (by decide) ?_
      refine lv_istore_n (lv' := [(2, .int 0), (0, .ref ltp), (1, .int most)]) hx hb dX7_readNumber_28 rfl hl (by decide) rfl (fun ls hl => ?_)
      refine lv_aload_n hx hb dX7_readNumber_29 rfl (lv_at hl 1 rfl) ?_
      refine rg hf hk hw hinX7 0 rfl rfl 3 (by decide) w_2 rfl dX7_readNumber_30 ?_
      refine lv_istore_n (lv' := [(3, .int (nI (wdS byt tsz we))), (2, .int 0), (0, .ref ltp), (1, .int most)]) hx hb dX7_readNumber_33 rfl hl (by decide) rfl (fun ls hl => ?_)
      have lp_34_2 : ∀ (fu k : Nat) (vv : Int32), k ≤ (wdE byt tsz we - wdS byt tsz we) → (wdE byt tsz we - wdS byt tsz we) + 1 ≤ k + fu → (vv = vnR byt (wdS byt tsz we) k) → ∀ (H : Heap) (locs : List Loc), hv g (va_I [cob ltp 7 [.ref lby, .int (nI tsz), .int tso, .int (nI ws), .int (nI we)], cby g lby 200 byt]) s H locs [cob ltp 7 [.ref lby, .int (nI tsz), .int (wdO byt tsz we), .int (nI (wdS byt tsz we)), .int (nI (wdE byt tsz we))], cby g lby 200 byt] → ∀ ls : Array Slot, lv_has ls 4 [(3, .int (nI (wdS byt tsz we + k))), (2, .int vv), (0, .ref ltp), (1, .int most)] → W p l e rmX7_readNumber s m ([.ref ltp, .int most] : List Value).toArray below meth c H locs 0 0 (MQ below (mtQ g [cob ltp 7 [.ref lby, .int (nI tsz), .int tso, .int (nI ws), .int (nI we)], cby g lby 200 byt] (some (.int (rdN byt tsz we most))) [cob ltp 7 [.ref lby, .int (nI tsz), .int (wdO byt tsz we), .int (nI (wdS byt tsz we)), .int (nI (wdE byt tsz we))], cby g lby 200 byt]) ([.ref ltp, .int most] : List Value).toArray s 0 0 (va_I [cob ltp 7 [.ref lby, .int (nI tsz), .int tso, .int (nI ws), .int (nI we)], cby g lby 200 byt])) (F0 m 34 ls []) := by
        intro fu
        induction fu with
        | zero =>
          intro k vv h1 h2
          exact absurd h2 (by omega)
        | succ fu ih_34 =>
          intro k vv hk1_34 hk2_34 ev H locs hw ls hl
          refine lv_iload_n hx hb dX7_readNumber_34 rfl (lv_at hl 0 rfl) ?_
          refine lv_aload_n hx hb dX7_readNumber_35 rfl (lv_at hl 2 rfl) ?_
          refine rg hf hk hw hinX7 0 rfl rfl 4 (by decide) w_1 rfl dX7_readNumber_36 ?_
          refine lv_icmp_ge (tgt := 63) hx hb dX7_readNumber_39 (by decide) (fun c_4 => ?_) (fun c_4 => ?_)
          · have hkE : k = wdE byt tsz we - wdS byt tsz we := Nat.le_antisymm hk1_34 (by have := (nI_leI (by omega) (by omega)).mp c_4; omega)
            refine lv_iload_n hx hb dX7_readNumber_63 rfl (lv_at hl 1 rfl) ?_
            refine lv_iload_n hx hb dX7_readNumber_64 rfl (lv_at hl 3 rfl) ?_
            refine lv_icmp_le (tgt := 72) hx hb dX7_readNumber_65 (by decide) (fun c_5 => ?_) (fun c_5 => ?_)
            · refine lv_iload_n hx hb dX7_readNumber_72 rfl (lv_at hl 1 rfl) ?_
              rw [ev, hkE] at c_5
              exact re_i hf hr hlk hw (by rw [ev, hkE]; simp only [rdN, if_pos c_1, if_pos c_2, if_pos c_5]) (rfl) dX7_readNumber_73
            · refine lv_iconst (v := (-1)) hx hb dX7_readNumber_68 (by decide) ?_
              refine lv_goto (tgt := 73) hx hb dX7_readNumber_69 (by decide) ?_
              rw [ev, hkE] at c_5
              exact re_i hf hr hlk hw (by simp only [rdN, if_pos c_1, if_pos c_2, if_neg c_5]) (rfl) dX7_readNumber_73
          · have hkl : wdS byt tsz we + k < wdE byt tsz we := Nat.not_le.mp (fun h => c_4 ((nI_leI (by omega) (by omega)).mpr h))
            refine lv_iload_n hx hb dX7_readNumber_42 rfl (lv_at hl 1 rfl) ?_
            refine lv_bipush (v := 10) hx hb dX7_readNumber_43 (by decide) ?_
            refine lv_imul hx hb dX7_readNumber_45 ?_
            refine lv_aload_n hx hb dX7_readNumber_46 rfl (lv_at hl 2 rfl) ?_
            refine rg hf hk hw hinX7 0 rfl rfl 0 (by decide) w_3 rfl dX7_readNumber_47 ?_
            refine lv_iload_n hx hb dX7_readNumber_50 rfl (lv_at hl 0 rfl) ?_
            refine rbj hf hk hw 1 rfl (j := wdS byt tsz we + k) (vp_in_nI (by omega) (by omega)) (nI_clamp (by omega)) dX7_readNumber_51 ?_
            refine lv_iadd hx hb dX7_readNumber_52 ?_
            refine lv_bipush (v := 48) hx hb dX7_readNumber_53 (by decide) ?_
            refine lv_isub hx hb dX7_readNumber_55 ?_
            refine lv_istore_n (lv' := [(2, .int (((vv * 10) + (byt (wdS byt tsz we + k))) - 48)), (3, .int (nI (wdS byt tsz we + k))), (0, .ref ltp), (1, .int most)]) hx hb dX7_readNumber_56 rfl hl (by decide) rfl (fun ls hl => ?_)
            refine lv_iinc (v := nI (wdS byt tsz we + (k + 1))) (lv' := [(3, .int (nI (wdS byt tsz we + (k + 1)))), (2, .int (((vv * 10) + (byt (wdS byt tsz we + k))) - 48)), (0, .ref ltp), (1, .int most)]) hx hb dX7_readNumber_57 hl (k := 1) rfl (nI_1 _) (by decide) rfl (fun ls hl => ?_)
            refine lv_goto (tgt := 34) hx hb dX7_readNumber_60 (by decide) ?_
            exact ih_34 (k + 1) (((vv * 10) + (byt (wdS byt tsz we + k))) - 48) (by omega) (by omega) (by rw [ev]; rfl) _ _ hw _ (lv_sub hl [0, 1, 2, 3] rfl)
      exact lp_34_2 ((wdE byt tsz we - wdS byt tsz we) + 1) 0 0 (by omega) (by omega) (rfl) _ _ hw _ (lv_sub hl [0, 1, 2, 3] rfl)
    · refine lv_iconst (v := (-1)) hx hb dX7_readNumber_25 (by decide) ?_
      exact re_i hf hr hlk hw (by simp only [rdN, if_pos c_1, if_neg c_2]) (rfl) dX7_readNumber_26
