/-! the tape's words: 1 a name, 2 a number, 3 another byte; 0 the end -/
def sortB (b : Int32) : Int32 := if b < 97 then (if b < 48 then 3 else if 57 < b then 3 else 2) else if 122 < b then (if b < 48 then 3 else if 57 < b then 3 else 2) else 1
/-- past the blanks -/
def skB (byt : Nat → Int32) (tsz : Nat) : Nat → Nat → Nat
  | 0, j => j
  | m + 1, j => if nI tsz ≤ nI j then j else if byt j = 32 then skB byt tsz m (j + 1) else j
/-- to where a row of one sort goes -/
def enB (byt : Nat → Int32) (tsz : Nat) (so : Int32) : Nat → Nat → Nat
  | 0, j => j
  | m + 1, j => if nI tsz ≤ nI j then j else if sortB (byt j) = so then enB byt tsz so m (j + 1) else j
def wdS (byt : Nat → Int32) (tsz we : Nat) : Nat := skB byt tsz (tsz - we + 1) we
def wdO (byt : Nat → Int32) (tsz we : Nat) : Int32 := if nI (wdS byt tsz we) < nI tsz then sortB (byt (wdS byt tsz we)) else 0
def wdE (byt : Nat → Int32) (tsz we : Nat) : Nat := if nI (wdS byt tsz we) < nI tsz then (if sortB (byt (wdS byt tsz we)) = 3 then wdS byt tsz we + 1 else enB byt tsz (sortB (byt (wdS byt tsz we))) (tsz - (wdS byt tsz we + 1) + 1) (wdS byt tsz we + 1)) else wdS byt tsz we
abbrev rmX7_sortAt : Room := { frames := 0, cells := 0, slots := 0, locals := 0 }
set_option maxHeartbeats 4000000 in
set_option maxRecDepth 100000 in
theorem c_X7_sortAt (l : Launch) (g : GG) (ltp : Nat) (lby : Nat) (tsz : Nat) (tso : Int32) (ws : Nat) (we : Nat) (byt : Nat → Int32) (k : Nat) (hk2 : k < 200) : mt l g yX7_sortAt wsX7_sortAt rmX7_sortAt [.ref ltp, .int (nI k)] [cob ltp 7 [.ref lby, .int (nI tsz), .int tso, .int (nI ws), .int (nI we)], cby g lby 200 byt] (some (.int (sortB (byt k)))) [cob ltp 7 [.ref lby, .int (nI tsz), .int tso, .int (nI ws), .int (nI we)], cby g lby 200 byt] := by
  refine mt.of (cc := cX7_sortAt) (nL := 2) (ret := (some .int)) (own := RX7) (by decide +kernel) rfl rfl (show ([ltp, lby] : List Nat) = [ltp, lby] from rfl) (Nat.le_of_ble_eq_true rfl) (fun p e s m below meth c hf hr hlk _ hk hst hw ls hl => ?_)
  have hx := hf.1
  have hb := hf.2.1
  have hts := hf.2.2.2.2
  have hl : lv_has ls 2 [(0, .ref ltp), (1, .int (nI k))] := hl
  have hinX7 : ∀ w ∈ u_ws RX7 TX7 5, w ∈ wsX7_sortAt := fun w h => List.mem_cons_of_mem _ (List.mem_append_right _ h)
  have w_0 : Cond.fieldLink RX7 9 "LightMan$Tape" "bytes" "[B" ∈ wsX7_sortAt := List.mem_of_getElem? (i := 1) rfl
  refine lv_aload_n hx hb dX7_sortAt_0 rfl (lv_at hl 0 rfl) ?_
  refine rg hf hk hw hinX7 0 rfl rfl 0 (by decide) w_0 rfl dX7_sortAt_1 ?_
  refine lv_iload_n hx hb dX7_sortAt_4 rfl (lv_at hl 1 rfl) ?_
  refine rbj hf hk hw 1 rfl (j := k) (vp_in_nI (by omega) (by omega)) (nI_clamp (by omega)) dX7_sortAt_5 ?_
  refine lv_bipush (v := 97) hx hb dX7_sortAt_6 (by decide) ?_
  refine lv_icmp_lt (tgt := 24) hx hb dX7_sortAt_8 (by decide) (fun c_1 => ?_) (fun c_1 => ?_)
  · refine lv_aload_n hx hb dX7_sortAt_24 rfl (lv_at hl 0 rfl) ?_
    refine rg hf hk hw hinX7 0 rfl rfl 0 (by decide) w_0 rfl dX7_sortAt_25 ?_
    refine lv_iload_n hx hb dX7_sortAt_28 rfl (lv_at hl 1 rfl) ?_
    refine rbj hf hk hw 1 rfl (j := k) (vp_in_nI (by omega) (by omega)) (nI_clamp (by omega)) dX7_sortAt_29 ?_
    refine lv_bipush (v := 48) hx hb dX7_sortAt_30 (by decide) ?_
    refine lv_icmp_lt (tgt := 50) hx hb dX7_sortAt_32 (by decide) (fun c_2 => ?_) (fun c_2 => ?_)
    · refine lv_iconst (v := 3) hx hb dX7_sortAt_50 (by decide) ?_
      exact re_i hf hr hlk hw (by unfold sortB; simp only [if_pos c_1, if_pos c_2]) (rfl) dX7_sortAt_51
    · refine lv_aload_n hx hb dX7_sortAt_35 rfl (lv_at hl 0 rfl) ?_
      refine rg hf hk hw hinX7 0 rfl rfl 0 (by decide) w_0 rfl dX7_sortAt_36 ?_
      refine lv_iload_n hx hb dX7_sortAt_39 rfl (lv_at hl 1 rfl) ?_
      refine rbj hf hk hw 1 rfl (j := k) (vp_in_nI (by omega) (by omega)) (nI_clamp (by omega)) dX7_sortAt_40 ?_
      refine lv_bipush (v := 57) hx hb dX7_sortAt_41 (by decide) ?_
      refine lv_icmp_gt (tgt := 50) hx hb dX7_sortAt_43 (by decide) (fun c_3 => ?_) (fun c_3 => ?_)
      · refine lv_iconst (v := 3) hx hb dX7_sortAt_50 (by decide) ?_
        exact re_i hf hr hlk hw (by unfold sortB; simp only [if_pos c_1, if_neg c_2, if_pos c_3]) (rfl) dX7_sortAt_51
      · refine lv_iconst (v := 2) hx hb dX7_sortAt_46 (by decide) ?_
        refine lv_goto (tgt := 51) hx hb dX7_sortAt_47 (by decide) ?_
        exact re_i hf hr hlk hw (by unfold sortB; simp only [if_pos c_1, if_neg c_2, if_neg c_3]) (rfl) dX7_sortAt_51
  · refine lv_aload_n hx hb dX7_sortAt_11 rfl (lv_at hl 0 rfl) ?_
    refine rg hf hk hw hinX7 0 rfl rfl 0 (by decide) w_0 rfl dX7_sortAt_12 ?_
    refine lv_iload_n hx hb dX7_sortAt_15 rfl (lv_at hl 1 rfl) ?_
    refine rbj hf hk hw 1 rfl (j := k) (vp_in_nI (by omega) (by omega)) (nI_clamp (by omega)) dX7_sortAt_16 ?_
    refine lv_bipush (v := 122) hx hb dX7_sortAt_17 (by decide) ?_
    refine lv_icmp_gt (tgt := 24) hx hb dX7_sortAt_19 (by decide) (fun c_4 => ?_) (fun c_4 => ?_)
    · refine lv_aload_n hx hb dX7_sortAt_24 rfl (lv_at hl 0 rfl) ?_
      refine rg hf hk hw hinX7 0 rfl rfl 0 (by decide) w_0 rfl dX7_sortAt_25 ?_
      refine lv_iload_n hx hb dX7_sortAt_28 rfl (lv_at hl 1 rfl) ?_
      refine rbj hf hk hw 1 rfl (j := k) (vp_in_nI (by omega) (by omega)) (nI_clamp (by omega)) dX7_sortAt_29 ?_
      refine lv_bipush (v := 48) hx hb dX7_sortAt_30 (by decide) ?_
      refine lv_icmp_lt (tgt := 50) hx hb dX7_sortAt_32 (by decide) (fun c_5 => ?_) (fun c_5 => ?_)
      · refine lv_iconst (v := 3) hx hb dX7_sortAt_50 (by decide) ?_
        exact re_i hf hr hlk hw (by unfold sortB; simp only [if_neg c_1, if_pos c_4, if_pos c_5]) (rfl) dX7_sortAt_51
      · refine lv_aload_n hx hb dX7_sortAt_35 rfl (lv_at hl 0 rfl) ?_
        refine rg hf hk hw hinX7 0 rfl rfl 0 (by decide) w_0 rfl dX7_sortAt_36 ?_
        refine lv_iload_n hx hb dX7_sortAt_39 rfl (lv_at hl 1 rfl) ?_
        refine rbj hf hk hw 1 rfl (j := k) (vp_in_nI (by omega) (by omega)) (nI_clamp (by omega)) dX7_sortAt_40 ?_
        refine lv_bipush (v := 57) hx hb dX7_sortAt_41 (by decide) ?_
        refine lv_icmp_gt (tgt := 50) hx hb dX7_sortAt_43 (by decide) (fun c_6 => ?_) (fun c_6 => ?_)
        · refine lv_iconst (v := 3) hx hb dX7_sortAt_50 (by decide) ?_
          exact re_i hf hr hlk hw (by unfold sortB; simp only [if_neg c_1, if_pos c_4, if_neg c_5, if_pos c_6]) (rfl) dX7_sortAt_51
        · refine lv_iconst (v := 2) hx hb dX7_sortAt_46 (by decide) ?_
          refine lv_goto (tgt := 51) hx hb dX7_sortAt_47 (by decide) ?_
          exact re_i hf hr hlk hw (by unfold sortB; simp only [if_neg c_1, if_pos c_4, if_neg c_5, if_neg c_6]) (rfl) dX7_sortAt_51
    · refine lv_iconst (v := 1) hx hb dX7_sortAt_22 (by decide) ?_
      exact re_i hf hr hlk hw (by unfold sortB; simp only [if_neg c_1, if_neg c_4]) (rfl) dX7_sortAt_23
def f_X7_isSemicolon (tso : Int32) (ws : Nat) (byt : Nat → Int32) : Int32 := if tso = 3 then (if (byt ws) = 59 then 1 else 0) else 0
abbrev rmX7_isSemicolon : Room := { frames := 0, cells := 0, slots := 0, locals := 0 }
set_option maxHeartbeats 4000000 in
set_option maxRecDepth 100000 in
theorem c_X7_isSemicolon (l : Launch) (g : GG) (ltp : Nat) (lby : Nat) (tsz : Nat) (tso : Int32) (ws : Nat) (we : Nat) (byt : Nat → Int32) (hw2 : ws < 200 ∨ ¬ tso = 3) : mt l g yX7_isSemicolon wsX7_isSemicolon rmX7_isSemicolon [.ref ltp] [cob ltp 7 [.ref lby, .int (nI tsz), .int tso, .int (nI ws), .int (nI we)], cby g lby 200 byt] (some (.int (f_X7_isSemicolon tso ws byt))) [cob ltp 7 [.ref lby, .int (nI tsz), .int tso, .int (nI ws), .int (nI we)], cby g lby 200 byt] := by
  refine mt.of (cc := cX7_isSemicolon) (nL := 1) (ret := (some .boolean)) (own := RX7) (by decide +kernel) rfl rfl (show ([ltp, lby] : List Nat) = [ltp, lby] from rfl) (Nat.le_of_ble_eq_true rfl) (fun p e s m below meth c hf hr hlk _ hk hst hw ls hl => ?_)
  have hx := hf.1
  have hb := hf.2.1
  have hts := hf.2.2.2.2
  have hl : lv_has ls 1 [(0, .ref ltp)] := hl
  have hinX7 : ∀ w ∈ u_ws RX7 TX7 5, w ∈ wsX7_isSemicolon := fun w h => List.mem_cons_of_mem _ (List.mem_append_right _ h)
  have w_0 : Cond.fieldLink RX7 19 "LightMan$Tape" "sort" "I" ∈ wsX7_isSemicolon := List.mem_of_getElem? (i := 1) rfl
  have w_1 : Cond.fieldLink RX7 9 "LightMan$Tape" "bytes" "[B" ∈ wsX7_isSemicolon := List.mem_of_getElem? (i := 2) rfl
  have w_2 : Cond.fieldLink RX7 22 "LightMan$Tape" "start" "I" ∈ wsX7_isSemicolon := List.mem_of_getElem? (i := 3) rfl
  refine lv_aload_n hx hb dX7_isSemicolon_0 rfl (lv_at hl 0 rfl) ?_
  refine rg hf hk hw hinX7 0 rfl rfl 2 (by decide) w_0 rfl dX7_isSemicolon_1 ?_
  refine lv_iconst (v := 3) hx hb dX7_isSemicolon_4 (by decide) ?_
  refine lv_icmp_ne (tgt := 26) hx hb dX7_isSemicolon_5 (by decide) (fun c_1 => ?_) (fun c_1 => ?_)
  · refine lv_iconst (v := 0) hx hb dX7_isSemicolon_26 (by decide) ?_
    exact re_z hf hr hlk hw (rfl) (by simp only [f_X7_isSemicolon, if_neg c_1]) (rfl) dX7_isSemicolon_27
  · have hw3 : ws < 200 := hw2.resolve_right (fun h => h c_1)
    refine lv_aload_n hx hb dX7_isSemicolon_8 rfl (lv_at hl 0 rfl) ?_
    refine rg hf hk hw hinX7 0 rfl rfl 0 (by decide) w_1 rfl dX7_isSemicolon_9 ?_
    refine lv_aload_n hx hb dX7_isSemicolon_12 rfl (lv_at hl 0 rfl) ?_
    refine rg hf hk hw hinX7 0 rfl rfl 3 (by decide) w_2 rfl dX7_isSemicolon_13 ?_
    refine rbj hf hk hw 1 rfl (j := ws) (vp_in_nI (by omega) (by omega)) (nI_clamp (by omega)) dX7_isSemicolon_16 ?_
    refine lv_bipush (v := 59) hx hb dX7_isSemicolon_17 (by decide) ?_
    refine lv_icmp_ne (tgt := 26) hx hb dX7_isSemicolon_19 (by decide) (fun c_2 => ?_) (fun c_2 => ?_)
    · refine lv_iconst (v := 0) hx hb dX7_isSemicolon_26 (by decide) ?_
      exact re_z hf hr hlk hw (rfl) (by simp only [f_X7_isSemicolon, if_pos c_1, if_neg c_2]) (rfl) dX7_isSemicolon_27
    · refine lv_iconst (v := 1) hx hb dX7_isSemicolon_22 (by decide) ?_
      refine lv_goto (tgt := 27) hx hb dX7_isSemicolon_23 (by decide) ?_
      exact re_z hf hr hlk hw (rfl) (by simp only [f_X7_isSemicolon, if_pos c_1, if_pos c_2]) (rfl) dX7_isSemicolon_27
theorem hdV_X7_sortAt : yX7_sortAt.cls = RX7 ∧ yX7_sortAt.cls ≠ "java/lang/invoke/MethodHandle" ∧ yX7_sortAt.cls ≠ "java/lang/invoke/VarHandle" ∧ (parseMethodDescriptor yX7_sortAt.desc).map (fun d => d.parameters.length) = some 1 := by decide +kernel
abbrev rmX7_readWord : Room := { frames := 1, cells := 0, slots := 0, locals := 21 }
set_option maxHeartbeats 4000000 in
set_option maxRecDepth 100000 in
theorem c_X7_readWord (l : Launch) (g : GG) (ltp : Nat) (lby : Nat) (tsz : Nat) (tso : Int32) (we : Nat) (byt : Nat → Int32) (wst : Int32) (hwe : we ≤ tsz) (htz : tsz ≤ 200) : mt l g yX7_readWord wsX7_readWord rmX7_readWord [.ref ltp] [cob ltp 7 [.ref lby, .int (nI tsz), .int tso, .int wst, .int (nI we)], cby g lby 200 byt] none [cob ltp 7 [.ref lby, .int (nI tsz), .int (wdO byt tsz we), .int (nI (wdS byt tsz we)), .int (nI (wdE byt tsz we))], cby g lby 200 byt] := by
  refine mt.of (cc := cX7_readWord) (nL := 1) (ret := none) (own := RX7) (by decide +kernel) rfl rfl (show ([ltp, lby] : List Nat) = [ltp, lby] from rfl) (Nat.le_of_ble_eq_true rfl) (fun p e s m below meth c hf hr hlk _ hk hst hw ls hl => ?_)
  have hx := hf.1
  have hb := hf.2.1
  have hts := hf.2.2.2.2
  have hl : lv_has ls 1 [(0, .ref ltp)] := hl
  have hinX7 : ∀ w ∈ u_ws RX7 TX7 5, w ∈ wsX7_readWord := fun w h => List.mem_cons_of_mem _ (List.mem_append_right _ h)
  have w_0 : Cond.fieldLink RX7 25 "LightMan$Tape" "end" "I" ∈ wsX7_readWord := List.mem_of_getElem? (i := 1) rfl
  have w_1 : Cond.fieldLink RX7 22 "LightMan$Tape" "start" "I" ∈ wsX7_readWord := List.mem_of_getElem? (i := 2) rfl
  have w_2 : Cond.fieldLink RX7 15 "LightMan$Tape" "size" "I" ∈ wsX7_readWord := List.mem_of_getElem? (i := 3) rfl
  have w_3 : Cond.fieldLink RX7 19 "LightMan$Tape" "sort" "I" ∈ wsX7_readWord := List.mem_of_getElem? (i := 5) rfl
  have w_4 : Cond.fieldLink RX7 9 "LightMan$Tape" "bytes" "[B" ∈ wsX7_readWord := List.mem_of_getElem? (i := 4) rfl
  refine lv_aload_n hx hb dX7_readWord_0 rfl (lv_at hl 0 rfl) ?_
  refine lv_aload_n hx hb dX7_readWord_1 rfl (lv_at hl 0 rfl) ?_
  refine rg hf hk hw hinX7 0 rfl rfl 4 (by decide) w_0 rfl dX7_readWord_2 ?_
  refine rp hf hk hw hinX7 tyX7 tyX7_ok nmX7 0 rfl rfl 3 (by decide) w_1 rfl (rfl) rfl (Nat.le_of_ble_eq_true rfl) dX7_readWord_5 (W' := [cob ltp 7 [.ref lby, .int (nI tsz), .int tso, .int (nI we), .int (nI we)], cby g lby 200 byt]) rfl (fun H locs hw => ?_)
  have lp_8_0 : ∀ (fu k : Nat), k ≤ (tsz - we) → (tsz - we) + 1 ≤ k + fu → (skB byt tsz (tsz - we + 1) we = skB byt tsz (tsz - we - k + 1) (we + k)) → ∀ (H : Heap) (locs : List Loc), hv g (va_I [cob ltp 7 [.ref lby, .int (nI tsz), .int tso, .int wst, .int (nI we)], cby g lby 200 byt]) s H locs [cob ltp 7 [.ref lby, .int (nI tsz), .int tso, .int (nI (we + k)), .int (nI we)], cby g lby 200 byt] → ∀ ls : Array Slot, lv_has ls 1 [(0, .ref ltp)] → W p l e rmX7_readWord s m ([.ref ltp] : List Value).toArray below meth c H locs 0 0 (MQ below (mtQ g [cob ltp 7 [.ref lby, .int (nI tsz), .int tso, .int wst, .int (nI we)], cby g lby 200 byt] none [cob ltp 7 [.ref lby, .int (nI tsz), .int (wdO byt tsz we), .int (nI (wdS byt tsz we)), .int (nI (wdE byt tsz we))], cby g lby 200 byt]) ([.ref ltp] : List Value).toArray s 0 0 (va_I [cob ltp 7 [.ref lby, .int (nI tsz), .int tso, .int wst, .int (nI we)], cby g lby 200 byt])) (F0 m 8 ls []) := by
    intro fu
    induction fu with
    | zero =>
      intro k h1 h2
      exact absurd h2 (by omega)
    | succ fu ih_8 =>
      intro k hk1_8 hk2_8 eS H locs hw ls hl
      refine lv_aload_n hx hb dX7_readWord_8 rfl (lv_at hl 0 rfl) ?_
      refine rg hf hk hw hinX7 0 rfl rfl 3 (by decide) w_1 rfl dX7_readWord_9 ?_
      refine lv_aload_n hx hb dX7_readWord_12 rfl (lv_at hl 0 rfl) ?_
      refine rg hf hk hw hinX7 0 rfl rfl 1 (by decide) w_2 rfl dX7_readWord_13 ?_
      refine lv_icmp_ge (tgt := 46) hx hb dX7_readWord_16 (by decide) (fun c_2 => ?_) (fun c_2 => ?_)
      · have eS2 : wdS byt tsz we = we + k := by show skB byt tsz (tsz - we + 1) we = _; rw [eS]; exact if_pos c_2
        refine lv_aload_n hx hb dX7_readWord_46 rfl (lv_at hl 0 rfl) ?_
        refine rg hf hk hw hinX7 0 rfl rfl 3 (by decide) w_1 rfl dX7_readWord_47 ?_
        refine lv_aload_n hx hb dX7_readWord_50 rfl (lv_at hl 0 rfl) ?_
        refine rg hf hk hw hinX7 0 rfl rfl 1 (by decide) w_2 rfl dX7_readWord_51 ?_
        refine lv_icmp_lt (tgt := 71) hx hb dX7_readWord_54 (by decide) (fun c_3 => ?_) (fun c_3 => ?_)
        · have hlt2 : we + k < tsz := (nI_ltI (by omega) (by omega)).mp c_3
          refine lv_aload_n hx hb dX7_readWord_71 rfl (lv_at hl 0 rfl) ?_
          refine lv_aload_n hx hb dX7_readWord_72 rfl (lv_at hl 0 rfl) ?_
          refine lv_aload_n hx hb dX7_readWord_73 rfl (lv_at hl 0 rfl) ?_
          refine rg hf hk hw hinX7 0 rfl rfl 3 (by decide) w_1 rfl dX7_readWord_74 ?_
          refine mcV hf hk hst hw (c_X7_sortAt l g ltp lby tsz tso (we + k) we byt (we + k) (by omega)) (cwV 1 hts gX7_readWord_X7_sortAt rfl rfl rfl hdV_X7_sortAt ⟨Nat.le_of_ble_eq_true rfl, Nat.le_of_ble_eq_true rfl⟩) [0, 1] rfl rfl 0 rfl rfl rfl hl.1 rfl (Nat.le_of_ble_eq_true rfl) dX7_readWord_77 ⟨Nat.zero_le _, Nat.zero_le _⟩ (W' := [cob ltp 7 [.ref lby, .int (nI tsz), .int tso, .int (nI (we + k)), .int (nI we)], cby g lby 200 byt]) rfl (fun H locs hw => ?_)
          refine rp hf hk hw hinX7 tyX7 tyX7_ok nmX7 0 rfl rfl 2 (by decide) w_3 rfl (rfl) rfl (Nat.le_of_ble_eq_true rfl) dX7_readWord_80 (W' := [cob ltp 7 [.ref lby, .int (nI tsz), .int (sortB (byt (we + k))), .int (nI (we + k)), .int (nI we)], cby g lby 200 byt]) rfl (fun H locs hw => ?_)
          refine lv_aload_n hx hb dX7_readWord_83 rfl (lv_at hl 0 rfl) ?_
          refine lv_aload_n hx hb dX7_readWord_84 rfl (lv_at hl 0 rfl) ?_
          refine rg hf hk hw hinX7 0 rfl rfl 3 (by decide) w_1 rfl dX7_readWord_85 ?_
          refine lv_iconst (v := 1) hx hb dX7_readWord_88 (by decide) ?_
          refine lv_iadd hx hb dX7_readWord_89 ?_
          refine lv_tope (y := nI (we + k + 1)) (nI_1 _) ?_
          refine rp hf hk hw hinX7 tyX7 tyX7_ok nmX7 0 rfl rfl 4 (by decide) w_0 rfl (rfl) rfl (Nat.le_of_ble_eq_true rfl) dX7_readWord_90 (W' := [cob ltp 7 [.ref lby, .int (nI tsz), .int (sortB (byt (we + k))), .int (nI (we + k)), .int (nI (we + k + 1))], cby g lby 200 byt]) rfl (fun H locs hw => ?_)
          have lp_93_3 : ∀ (fu j : Nat), j ≤ (tsz - (we + k + 1)) → (tsz - (we + k + 1)) + 1 ≤ j + fu → (0 < j → ¬ sortB (byt (we + k)) = 3) → (enB byt tsz (sortB (byt (we + k))) (tsz - (we + k + 1) + 1) (we + k + 1) = enB byt tsz (sortB (byt (we + k))) (tsz - (we + k + 1) - j + 1) (we + k + 1 + j)) → ∀ (H : Heap) (locs : List Loc), hv g (va_I [cob ltp 7 [.ref lby, .int (nI tsz), .int tso, .int wst, .int (nI we)], cby g lby 200 byt]) s H locs [cob ltp 7 [.ref lby, .int (nI tsz), .int (sortB (byt (we + k))), .int (nI (we + k)), .int (nI (we + k + 1 + j))], cby g lby 200 byt] → ∀ ls : Array Slot, lv_has ls 1 [(0, .ref ltp)] → W p l e rmX7_readWord s m ([.ref ltp] : List Value).toArray below meth c H locs 0 0 (MQ below (mtQ g [cob ltp 7 [.ref lby, .int (nI tsz), .int tso, .int wst, .int (nI we)], cby g lby 200 byt] none [cob ltp 7 [.ref lby, .int (nI tsz), .int (wdO byt tsz we), .int (nI (wdS byt tsz we)), .int (nI (wdE byt tsz we))], cby g lby 200 byt]) ([.ref ltp] : List Value).toArray s 0 0 (va_I [cob ltp 7 [.ref lby, .int (nI tsz), .int tso, .int wst, .int (nI we)], cby g lby 200 byt])) (F0 m 93 ls []) := by
            intro fu
            induction fu with
            | zero =>
              intro j h1 h2
              exact absurd h2 (by omega)
            | succ fu ih_93 =>
              intro j hk1_93 hk2_93 hj eE H locs hw ls hl
              refine lv_aload_n hx hb dX7_readWord_93 rfl (lv_at hl 0 rfl) ?_
              refine rg hf hk hw hinX7 0 rfl rfl 2 (by decide) w_3 rfl dX7_readWord_94 ?_
              refine lv_iconst (v := 3) hx hb dX7_readWord_97 (by decide) ?_
              refine lv_icmp_eq (tgt := 140) hx hb dX7_readWord_98 (by decide) (fun c_5 => ?_) (fun c_5 => ?_)
              · have hj0 : j = 0 := Nat.eq_zero_of_not_pos (fun h => hj h c_5)
                exact re_v hf hr hlk hw (by simp only [wdO, wdE, eS2, if_pos c_3, if_pos c_5, hj0, Nat.add_zero]) dX7_readWord_140
              · have hns := c_5
                refine lv_aload_n hx hb dX7_readWord_101 rfl (lv_at hl 0 rfl) ?_
                refine rg hf hk hw hinX7 0 rfl rfl 4 (by decide) w_0 rfl dX7_readWord_102 ?_
                refine lv_aload_n hx hb dX7_readWord_105 rfl (lv_at hl 0 rfl) ?_
                refine rg hf hk hw hinX7 0 rfl rfl 1 (by decide) w_2 rfl dX7_readWord_106 ?_
                refine lv_icmp_ge (tgt := 140) hx hb dX7_readWord_109 (by decide) (fun c_6 => ?_) (fun c_6 => ?_)
                · have eE2 : enB byt tsz (sortB (byt (we + k))) (tsz - (we + k + 1) + 1) (we + k + 1) = we + k + 1 + j := by rw [eE]; exact if_pos c_6
                  exact re_v hf hr hlk hw (by simp only [wdO, wdE, eS2, if_pos c_3, if_neg c_5, eE2]) dX7_readWord_140
                · have hlt3 : we + k + 1 + j < tsz := Nat.not_le.mp (fun h => c_6 ((nI_leI (by omega) (by omega)).mpr h))
                  have hge2 := c_6
                  have hm2 : tsz - (we + k + 1) - j + 1 = (tsz - (we + k + 1) - (j + 1) + 1) + 1 := by omega
                  refine lv_aload_n hx hb dX7_readWord_112 rfl (lv_at hl 0 rfl) ?_
                  refine lv_aload_n hx hb dX7_readWord_113 rfl (lv_at hl 0 rfl) ?_
                  refine rg hf hk hw hinX7 0 rfl rfl 4 (by decide) w_0 rfl dX7_readWord_114 ?_
                  refine mcV hf hk hst hw (c_X7_sortAt l g ltp lby tsz (sortB (byt (we + k))) (we + k) (we + k + 1 + j) byt (we + k + 1 + j) (by omega)) (cwV 1 hts gX7_readWord_X7_sortAt rfl rfl rfl hdV_X7_sortAt ⟨Nat.le_of_ble_eq_true rfl, Nat.le_of_ble_eq_true rfl⟩) [0, 1] rfl rfl 0 rfl rfl rfl hl.1 rfl (Nat.le_of_ble_eq_true rfl) dX7_readWord_117 ⟨Nat.zero_le _, Nat.zero_le _⟩ (W' := [cob ltp 7 [.ref lby, .int (nI tsz), .int (sortB (byt (we + k))), .int (nI (we + k)), .int (nI (we + k + 1 + j))], cby g lby 200 byt]) rfl (fun H locs hw => ?_)
                  refine lv_aload_n hx hb dX7_readWord_120 rfl (lv_at hl 0 rfl) ?_
                  refine rg hf hk hw hinX7 0 rfl rfl 2 (by decide) w_3 rfl dX7_readWord_121 ?_
                  refine lv_icmp_ne (tgt := 140) hx hb dX7_readWord_124 (by decide) (fun c_7 => ?_) (fun c_7 => ?_)
                  · have eE2 : enB byt tsz (sortB (byt (we + k))) (tsz - (we + k + 1) + 1) (we + k + 1) = we + k + 1 + j := by rw [eE]; exact (if_neg hge2).trans (if_neg c_7)
                    exact re_v hf hr hlk hw (by simp only [wdO, wdE, eS2, if_pos c_3, if_neg c_5, eE2]) dX7_readWord_140
                  · have hstep2 : enB byt tsz (sortB (byt (we + k))) (tsz - (we + k + 1) - (j + 1) + 1 + 1) (we + k + 1 + j) = enB byt tsz (sortB (byt (we + k))) (tsz - (we + k + 1) - (j + 1) + 1) (we + k + 1 + (j + 1)) := (if_neg hge2).trans (if_pos c_7)
                    refine lv_aload_n hx hb dX7_readWord_127 rfl (lv_at hl 0 rfl) ?_
                    refine lv_dup hx hb dX7_readWord_128 rfl ?_
                    refine rg hf hk hw hinX7 0 rfl rfl 4 (by decide) w_0 rfl dX7_readWord_129 ?_
                    refine lv_iconst (v := 1) hx hb dX7_readWord_132 (by decide) ?_
                    refine lv_iadd hx hb dX7_readWord_133 ?_
                    refine lv_tope (y := nI (we + k + 1 + (j + 1))) (nI_1 _) ?_
                    refine rp hf hk hw hinX7 tyX7 tyX7_ok nmX7 0 rfl rfl 4 (by decide) w_0 rfl (rfl) rfl (Nat.le_of_ble_eq_true rfl) dX7_readWord_134 (W' := [cob ltp 7 [.ref lby, .int (nI tsz), .int (sortB (byt (we + k))), .int (nI (we + k)), .int (nI (we + k + 1 + (j + 1)))], cby g lby 200 byt]) rfl (fun H locs hw => ?_)
                    refine lv_goto (tgt := 93) hx hb dX7_readWord_137 (by decide) ?_
                    exact ih_93 (j + 1) (by omega) (by omega) (fun _ => hns) (by rw [eE, hm2]; exact hstep2) _ _ hw _ (lv_sub hl [0] rfl)
          exact lp_93_3 ((tsz - (we + k + 1)) + 1) 0 (by omega) (by omega) (fun h => absurd h (Nat.lt_irrefl 0)) (rfl) _ _ hw _ (lv_sub hl [0] rfl)
        · refine lv_aload_n hx hb dX7_readWord_57 rfl (lv_at hl 0 rfl) ?_
          refine lv_iconst (v := 0) hx hb dX7_readWord_58 (by decide) ?_
          refine rp hf hk hw hinX7 tyX7 tyX7_ok nmX7 0 rfl rfl 2 (by decide) w_3 rfl (rfl) rfl (Nat.le_of_ble_eq_true rfl) dX7_readWord_59 (W' := [cob ltp 7 [.ref lby, .int (nI tsz), .int 0, .int (nI (we + k)), .int (nI we)], cby g lby 200 byt]) rfl (fun H locs hw => ?_)
          refine lv_aload_n hx hb dX7_readWord_62 rfl (lv_at hl 0 rfl) ?_
          refine lv_aload_n hx hb dX7_readWord_63 rfl (lv_at hl 0 rfl) ?_
          refine rg hf hk hw hinX7 0 rfl rfl 3 (by decide) w_1 rfl dX7_readWord_64 ?_
          refine rp hf hk hw hinX7 tyX7 tyX7_ok nmX7 0 rfl rfl 4 (by decide) w_0 rfl (rfl) rfl (Nat.le_of_ble_eq_true rfl) dX7_readWord_67 (W' := [cob ltp 7 [.ref lby, .int (nI tsz), .int 0, .int (nI (we + k)), .int (nI (we + k))], cby g lby 200 byt]) rfl (fun H locs hw => ?_)
          exact re_v hf hr hlk hw (by simp only [wdO, wdE, eS2, if_neg c_3]) dX7_readWord_70
      · have hlt : we + k < tsz := Nat.not_le.mp (fun h => c_2 ((nI_leI (by omega) (by omega)).mpr h))
        have hge := c_2
        have hm : tsz - we - k + 1 = (tsz - we - (k + 1) + 1) + 1 := by omega
        refine lv_aload_n hx hb dX7_readWord_19 rfl (lv_at hl 0 rfl) ?_
        refine rg hf hk hw hinX7 0 rfl rfl 0 (by decide) w_4 rfl dX7_readWord_20 ?_
        refine lv_aload_n hx hb dX7_readWord_23 rfl (lv_at hl 0 rfl) ?_
        refine rg hf hk hw hinX7 0 rfl rfl 3 (by decide) w_1 rfl dX7_readWord_24 ?_
        refine rbj hf hk hw 1 rfl (j := we + k) (vp_in_nI (by omega) (by omega)) (nI_clamp (by omega)) dX7_readWord_27 ?_
        refine lv_bipush (v := 32) hx hb dX7_readWord_28 (by decide) ?_
        refine lv_icmp_ne (tgt := 46) hx hb dX7_readWord_30 (by decide) (fun c_8 => ?_) (fun c_8 => ?_)
        · have eS2 : wdS byt tsz we = we + k := by show skB byt tsz (tsz - we + 1) we = _; rw [eS]; exact (if_neg hge).trans (if_neg c_8)
          refine lv_aload_n hx hb dX7_readWord_46 rfl (lv_at hl 0 rfl) ?_
          refine rg hf hk hw hinX7 0 rfl rfl 3 (by decide) w_1 rfl dX7_readWord_47 ?_
          refine lv_aload_n hx hb dX7_readWord_50 rfl (lv_at hl 0 rfl) ?_
          refine rg hf hk hw hinX7 0 rfl rfl 1 (by decide) w_2 rfl dX7_readWord_51 ?_
          refine lv_icmp_lt (tgt := 71) hx hb dX7_readWord_54 (by decide) (fun c_9 => ?_) (fun c_9 => ?_)
          · have hlt2 : we + k < tsz := (nI_ltI (by omega) (by omega)).mp c_9
            refine lv_aload_n hx hb dX7_readWord_71 rfl (lv_at hl 0 rfl) ?_
            refine lv_aload_n hx hb dX7_readWord_72 rfl (lv_at hl 0 rfl) ?_
            refine lv_aload_n hx hb dX7_readWord_73 rfl (lv_at hl 0 rfl) ?_
            refine rg hf hk hw hinX7 0 rfl rfl 3 (by decide) w_1 rfl dX7_readWord_74 ?_
            refine mcV hf hk hst hw (c_X7_sortAt l g ltp lby tsz tso (we + k) we byt (we + k) (by omega)) (cwV 1 hts gX7_readWord_X7_sortAt rfl rfl rfl hdV_X7_sortAt ⟨Nat.le_of_ble_eq_true rfl, Nat.le_of_ble_eq_true rfl⟩) [0, 1] rfl rfl 0 rfl rfl rfl hl.1 rfl (Nat.le_of_ble_eq_true rfl) dX7_readWord_77 ⟨Nat.zero_le _, Nat.zero_le _⟩ (W' := [cob ltp 7 [.ref lby, .int (nI tsz), .int tso, .int (nI (we + k)), .int (nI we)], cby g lby 200 byt]) rfl (fun H locs hw => ?_)
            refine rp hf hk hw hinX7 tyX7 tyX7_ok nmX7 0 rfl rfl 2 (by decide) w_3 rfl (rfl) rfl (Nat.le_of_ble_eq_true rfl) dX7_readWord_80 (W' := [cob ltp 7 [.ref lby, .int (nI tsz), .int (sortB (byt (we + k))), .int (nI (we + k)), .int (nI we)], cby g lby 200 byt]) rfl (fun H locs hw => ?_)
            refine lv_aload_n hx hb dX7_readWord_83 rfl (lv_at hl 0 rfl) ?_
            refine lv_aload_n hx hb dX7_readWord_84 rfl (lv_at hl 0 rfl) ?_
            refine rg hf hk hw hinX7 0 rfl rfl 3 (by decide) w_1 rfl dX7_readWord_85 ?_
            refine lv_iconst (v := 1) hx hb dX7_readWord_88 (by decide) ?_
            refine lv_iadd hx hb dX7_readWord_89 ?_
            refine lv_tope (y := nI (we + k + 1)) (nI_1 _) ?_
            refine rp hf hk hw hinX7 tyX7 tyX7_ok nmX7 0 rfl rfl 4 (by decide) w_0 rfl (rfl) rfl (Nat.le_of_ble_eq_true rfl) dX7_readWord_90 (W' := [cob ltp 7 [.ref lby, .int (nI tsz), .int (sortB (byt (we + k))), .int (nI (we + k)), .int (nI (we + k + 1))], cby g lby 200 byt]) rfl (fun H locs hw => ?_)
            have lp_93_9 : ∀ (fu j : Nat), j ≤ (tsz - (we + k + 1)) → (tsz - (we + k + 1)) + 1 ≤ j + fu → (0 < j → ¬ sortB (byt (we + k)) = 3) → (enB byt tsz (sortB (byt (we + k))) (tsz - (we + k + 1) + 1) (we + k + 1) = enB byt tsz (sortB (byt (we + k))) (tsz - (we + k + 1) - j + 1) (we + k + 1 + j)) → ∀ (H : Heap) (locs : List Loc), hv g (va_I [cob ltp 7 [.ref lby, .int (nI tsz), .int tso, .int wst, .int (nI we)], cby g lby 200 byt]) s H locs [cob ltp 7 [.ref lby, .int (nI tsz), .int (sortB (byt (we + k))), .int (nI (we + k)), .int (nI (we + k + 1 + j))], cby g lby 200 byt] → ∀ ls : Array Slot, lv_has ls 1 [(0, .ref ltp)] → W p l e rmX7_readWord s m ([.ref ltp] : List Value).toArray below meth c H locs 0 0 (MQ below (mtQ g [cob ltp 7 [.ref lby, .int (nI tsz), .int tso, .int wst, .int (nI we)], cby g lby 200 byt] none [cob ltp 7 [.ref lby, .int (nI tsz), .int (wdO byt tsz we), .int (nI (wdS byt tsz we)), .int (nI (wdE byt tsz we))], cby g lby 200 byt]) ([.ref ltp] : List Value).toArray s 0 0 (va_I [cob ltp 7 [.ref lby, .int (nI tsz), .int tso, .int wst, .int (nI we)], cby g lby 200 byt])) (F0 m 93 ls []) := by
              intro fu
              induction fu with
              | zero =>
                intro j h1 h2
                exact absurd h2 (by omega)
              | succ fu ih_93 =>
                intro j hk1_93 hk2_93 hj eE H locs hw ls hl
                refine lv_aload_n hx hb dX7_readWord_93 rfl (lv_at hl 0 rfl) ?_
                refine rg hf hk hw hinX7 0 rfl rfl 2 (by decide) w_3 rfl dX7_readWord_94 ?_
                refine lv_iconst (v := 3) hx hb dX7_readWord_97 (by decide) ?_
                refine lv_icmp_eq (tgt := 140) hx hb dX7_readWord_98 (by decide) (fun c_11 => ?_) (fun c_11 => ?_)
                · have hj0 : j = 0 := Nat.eq_zero_of_not_pos (fun h => hj h c_11)
                  exact re_v hf hr hlk hw (by simp only [wdO, wdE, eS2, if_pos c_9, if_pos c_11, hj0, Nat.add_zero]) dX7_readWord_140
                · have hns := c_11
                  refine lv_aload_n hx hb dX7_readWord_101 rfl (lv_at hl 0 rfl) ?_
                  refine rg hf hk hw hinX7 0 rfl rfl 4 (by decide) w_0 rfl dX7_readWord_102 ?_
                  refine lv_aload_n hx hb dX7_readWord_105 rfl (lv_at hl 0 rfl) ?_
                  refine rg hf hk hw hinX7 0 rfl rfl 1 (by decide) w_2 rfl dX7_readWord_106 ?_
                  refine lv_icmp_ge (tgt := 140) hx hb dX7_readWord_109 (by decide) (fun c_12 => ?_) (fun c_12 => ?_)
                  · have eE2 : enB byt tsz (sortB (byt (we + k))) (tsz - (we + k + 1) + 1) (we + k + 1) = we + k + 1 + j := by rw [eE]; exact if_pos c_12
                    exact re_v hf hr hlk hw (by simp only [wdO, wdE, eS2, if_pos c_9, if_neg c_11, eE2]) dX7_readWord_140
                  · have hlt3 : we + k + 1 + j < tsz := Nat.not_le.mp (fun h => c_12 ((nI_leI (by omega) (by omega)).mpr h))
                    have hge2 := c_12
                    have hm2 : tsz - (we + k + 1) - j + 1 = (tsz - (we + k + 1) - (j + 1) + 1) + 1 := by omega
                    refine lv_aload_n hx hb dX7_readWord_112 rfl (lv_at hl 0 rfl) ?_
                    refine lv_aload_n hx hb dX7_readWord_113 rfl (lv_at hl 0 rfl) ?_
                    refine rg hf hk hw hinX7 0 rfl rfl 4 (by decide) w_0 rfl dX7_readWord_114 ?_
                    refine mcV hf hk hst hw (c_X7_sortAt l g ltp lby tsz (sortB (byt (we + k))) (we + k) (we + k + 1 + j) byt (we + k + 1 + j) (by omega)) (cwV 1 hts gX7_readWord_X7_sortAt rfl rfl rfl hdV_X7_sortAt ⟨Nat.le_of_ble_eq_true rfl, Nat.le_of_ble_eq_true rfl⟩) [0, 1] rfl rfl 0 rfl rfl rfl hl.1 rfl (Nat.le_of_ble_eq_true rfl) dX7_readWord_117 ⟨Nat.zero_le _, Nat.zero_le _⟩ (W' := [cob ltp 7 [.ref lby, .int (nI tsz), .int (sortB (byt (we + k))), .int (nI (we + k)), .int (nI (we + k + 1 + j))], cby g lby 200 byt]) rfl (fun H locs hw => ?_)
                    refine lv_aload_n hx hb dX7_readWord_120 rfl (lv_at hl 0 rfl) ?_
                    refine rg hf hk hw hinX7 0 rfl rfl 2 (by decide) w_3 rfl dX7_readWord_121 ?_
                    refine lv_icmp_ne (tgt := 140) hx hb dX7_readWord_124 (by decide) (fun c_13 => ?_) (fun c_13 => ?_)
                    · have eE2 : enB byt tsz (sortB (byt (we + k))) (tsz - (we + k + 1) + 1) (we + k + 1) = we + k + 1 + j := by rw [eE]; exact (if_neg hge2).trans (if_neg c_13)
                      exact re_v hf hr hlk hw (by simp only [wdO, wdE, eS2, if_pos c_9, if_neg c_11, eE2]) dX7_readWord_140
                    · have hstep2 : enB byt tsz (sortB (byt (we + k))) (tsz - (we + k + 1) - (j + 1) + 1 + 1) (we + k + 1 + j) = enB byt tsz (sortB (byt (we + k))) (tsz - (we + k + 1) - (j + 1) + 1) (we + k + 1 + (j + 1)) := (if_neg hge2).trans (if_pos c_13)
                      refine lv_aload_n hx hb dX7_readWord_127 rfl (lv_at hl 0 rfl) ?_
                      refine lv_dup hx hb dX7_readWord_128 rfl ?_
                      refine rg hf hk hw hinX7 0 rfl rfl 4 (by decide) w_0 rfl dX7_readWord_129 ?_
                      refine lv_iconst (v := 1) hx hb dX7_readWord_132 (by decide) ?_
                      refine lv_iadd hx hb dX7_readWord_133 ?_
                      refine lv_tope (y := nI (we + k + 1 + (j + 1))) (nI_1 _) ?_
                      refine rp hf hk hw hinX7 tyX7 tyX7_ok nmX7 0 rfl rfl 4 (by decide) w_0 rfl (rfl) rfl (Nat.le_of_ble_eq_true rfl) dX7_readWord_134 (W' := [cob ltp 7 [.ref lby, .int (nI tsz), .int (sortB (byt (we + k))), .int (nI (we + k)), .int (nI (we + k + 1 + (j + 1)))], cby g lby 200 byt]) rfl (fun H locs hw => ?_)
                      refine lv_goto (tgt := 93) hx hb dX7_readWord_137 (by decide) ?_
                      exact ih_93 (j + 1) (by omega) (by omega) (fun _ => hns) (by rw [eE, hm2]; exact hstep2) _ _ hw _ (lv_sub hl [0] rfl)
            exact lp_93_9 ((tsz - (we + k + 1)) + 1) 0 (by omega) (by omega) (fun h => absurd h (Nat.lt_irrefl 0)) (rfl) _ _ hw _ (lv_sub hl [0] rfl)
          · refine lv_aload_n hx hb dX7_readWord_57 rfl (lv_at hl 0 rfl) ?_
            refine lv_iconst (v := 0) hx hb dX7_readWord_58 (by decide) ?_
            refine rp hf hk hw hinX7 tyX7 tyX7_ok nmX7 0 rfl rfl 2 (by decide) w_3 rfl (rfl) rfl (Nat.le_of_ble_eq_true rfl) dX7_readWord_59 (W' := [cob ltp 7 [.ref lby, .int (nI tsz), .int 0, .int (nI (we + k)), .int (nI we)], cby g lby 200 byt]) rfl (fun H locs hw => ?_)
            refine lv_aload_n hx hb dX7_readWord_62 rfl (lv_at hl 0 rfl) ?_
            refine lv_aload_n hx hb dX7_readWord_63 rfl (lv_at hl 0 rfl) ?_
            refine rg hf hk hw hinX7 0 rfl rfl 3 (by decide) w_1 rfl dX7_readWord_64 ?_
            refine rp hf hk hw hinX7 tyX7 tyX7_ok nmX7 0 rfl rfl 4 (by decide) w_0 rfl (rfl) rfl (Nat.le_of_ble_eq_true rfl) dX7_readWord_67 (W' := [cob ltp 7 [.ref lby, .int (nI tsz), .int 0, .int (nI (we + k)), .int (nI (we + k))], cby g lby 200 byt]) rfl (fun H locs hw => ?_)
            exact re_v hf hr hlk hw (by simp only [wdO, wdE, eS2, if_neg c_9]) dX7_readWord_70
        · have hstep : skB byt tsz (tsz - we - (k + 1) + 1 + 1) (we + k) = skB byt tsz (tsz - we - (k + 1) + 1) (we + (k + 1)) := (if_neg hge).trans (if_pos c_8)
          refine lv_aload_n hx hb dX7_readWord_33 rfl (lv_at hl 0 rfl) ?_
          refine lv_dup hx hb dX7_readWord_34 rfl ?_
          refine rg hf hk hw hinX7 0 rfl rfl 3 (by decide) w_1 rfl dX7_readWord_35 ?_
          refine lv_iconst (v := 1) hx hb dX7_readWord_38 (by decide) ?_
          refine lv_iadd hx hb dX7_readWord_39 ?_
          refine lv_tope (y := nI (we + (k + 1))) (nI_1 _) ?_
          refine rp hf hk hw hinX7 tyX7 tyX7_ok nmX7 0 rfl rfl 3 (by decide) w_1 rfl (rfl) rfl (Nat.le_of_ble_eq_true rfl) dX7_readWord_40 (W' := [cob ltp 7 [.ref lby, .int (nI tsz), .int tso, .int (nI (we + (k + 1))), .int (nI we)], cby g lby 200 byt]) rfl (fun H locs hw => ?_)
          refine lv_goto (tgt := 8) hx hb dX7_readWord_43 (by decide) ?_
          exact ih_8 (k + 1) (by omega) (by omega) (by rw [eS, hm]; exact hstep) _ _ hw _ (lv_sub hl [0] rfl)
  exact lp_8_0 ((tsz - we) + 1) 0 (by omega) (by omega) (rfl) _ _ hw _ (lv_sub hl [0] rfl)
