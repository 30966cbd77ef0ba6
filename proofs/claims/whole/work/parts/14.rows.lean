def f_X10_isNoPartOfRow (rc : Nat) (x : Int32) (w : Int32) : Int32 := if (f_X10_isOutside x 0 ((nI rc) - 1)) = 0 then (if (f_X10_isOutside w 0 2) = 0 then 0 else 1) else 1
abbrev rmX10_isNoPartOfRow : Room := { frames := 1, cells := 0, slots := 0, locals := 22 }
set_option maxHeartbeats 4000000 in
set_option maxRecDepth 100000 in
theorem c_X10_isNoPartOfRow (l : Launch) (g : GG) (lh : Nat) (t : Nat) (xt : Nat) (yt : Nat) (ak : Nat) (isk : Int32) (ltp : Nat) (lrw : Nat) (rc : Nat) (lac : Nat) (lsh : Nat) (lhh : Nat) (lhg : Nat) (lhr : Nat) (x : Int32) (w : Int32) : mt l g yX10_isNoPartOfRow wsX10_isNoPartOfRow rmX10_isNoPartOfRow [.ref lh, .int x, .int w] [cob lh 10 [.ref ak, .ref t, .ref yt, .ref xt, .int isk, .ref ltp, .ref lrw, .int (nI rc), .ref lac, .ref lsh, .ref lhh, .ref lhg, .ref lhr]] (some (.int (f_X10_isNoPartOfRow rc x w))) [cob lh 10 [.ref ak, .ref t, .ref yt, .ref xt, .int isk, .ref ltp, .ref lrw, .int (nI rc), .ref lac, .ref lsh, .ref lhh, .ref lhg, .ref lhr]] := by
  refine mt.of (cc := cX10_isNoPartOfRow) (nL := 3) (ret := (some .boolean)) (own := RX10) (by decide +kernel) rfl rfl (show ([lh] : List Nat) = [lh] from rfl) (Nat.le_of_ble_eq_true rfl) (fun p e s m below meth c hf hr hlk _ hk hst hw ls hl => ?_)
  have hx := hf.1
  have hb := hf.2.1
  have hts := hf.2.2.2.2
  have hl : lv_has ls 3 [(0, .ref lh), (1, .int x), (2, .int w)] := hl
  have hinX10 : ∀ w ∈ u_ws RX10 TX10 13, w ∈ wsX10_isNoPartOfRow := fun w h => List.mem_cons_of_mem _ (List.mem_append_right _ h)
  have w_0 : Cond.fieldLink RX10 61 "LightMan" "rowCount" "I" ∈ wsX10_isNoPartOfRow := List.mem_of_getElem? (i := 1) rfl
  refine lv_iload_n hx hb dX10_isNoPartOfRow_0 rfl (lv_at hl 1 rfl) ?_
  refine lv_iconst (v := 0) hx hb dX10_isNoPartOfRow_1 (by decide) ?_
  refine lv_aload_n hx hb dX10_isNoPartOfRow_2 rfl (lv_at hl 0 rfl) ?_
  refine rg hf hk hw hinX10 0 rfl rfl 7 (by decide) w_0 rfl dX10_isNoPartOfRow_3 ?_
  refine lv_iconst (v := 1) hx hb dX10_isNoPartOfRow_6 (by decide) ?_
  refine lv_isub hx hb dX10_isNoPartOfRow_7 ?_
  refine mcS hf hk hst hw (c_X10_isOutside l g x 0 ((nI rc) - 1)) (va_cwS 3 hts gX10_isNoPartOfRow_X10_isOutside rfl rfl rfl hdS_X10_isOutside ⟨Nat.le_of_ble_eq_true rfl, Nat.le_of_ble_eq_true rfl⟩) [] rfl rfl rfl hl.1 rfl (Nat.le_of_ble_eq_true rfl) dX10_isNoPartOfRow_8 ⟨Nat.zero_le _, Nat.zero_le _⟩ (W' := [cob lh 10 [.ref ak, .ref t, .ref yt, .ref xt, .int isk, .ref ltp, .ref lrw, .int (nI rc), .ref lac, .ref lsh, .ref lhh, .ref lhg, .ref lhr]]) rfl (fun H locs hw => ?_)
  refine lv_if_ne (tgt := 23) hx hb dX10_isNoPartOfRow_11 (by decide) (fun c_1 => ?_) (fun c_1 => ?_)
  · refine lv_iconst (v := 1) hx hb dX10_isNoPartOfRow_23 (by decide) ?_
    refine lv_goto (tgt := 28) hx hb dX10_isNoPartOfRow_24 (by decide) ?_
    exact re_z hf hr hlk hw (rfl) (by simp only [f_X10_isNoPartOfRow, if_neg c_1]) (rfl) dX10_isNoPartOfRow_28
  · refine lv_iload_n hx hb dX10_isNoPartOfRow_14 rfl (lv_at hl 2 rfl) ?_
    refine lv_iconst (v := 0) hx hb dX10_isNoPartOfRow_15 (by decide) ?_
    refine lv_iconst (v := 2) hx hb dX10_isNoPartOfRow_16 (by decide) ?_
    refine mcS hf hk hst hw (c_X10_isOutside l g w 0 2) (va_cwS 3 hts gX10_isNoPartOfRow_X10_isOutside rfl rfl rfl hdS_X10_isOutside ⟨Nat.le_of_ble_eq_true rfl, Nat.le_of_ble_eq_true rfl⟩) [] rfl rfl rfl hl.1 rfl (Nat.le_of_ble_eq_true rfl) dX10_isNoPartOfRow_17 ⟨Nat.zero_le _, Nat.zero_le _⟩ (W' := [cob lh 10 [.ref ak, .ref t, .ref yt, .ref xt, .int isk, .ref ltp, .ref lrw, .int (nI rc), .ref lac, .ref lsh, .ref lhh, .ref lhg, .ref lhr]]) rfl (fun H locs hw => ?_)
    refine lv_if_eq (tgt := 27) hx hb dX10_isNoPartOfRow_20 (by decide) (fun c_2 => ?_) (fun c_2 => ?_)
    · refine lv_iconst (v := 0) hx hb dX10_isNoPartOfRow_27 (by decide) ?_
      exact re_z hf hr hlk hw (rfl) (by simp only [f_X10_isNoPartOfRow, if_pos c_1, if_pos c_2]) (rfl) dX10_isNoPartOfRow_28
    · refine lv_iconst (v := 1) hx hb dX10_isNoPartOfRow_23 (by decide) ?_
      refine lv_goto (tgt := 28) hx hb dX10_isNoPartOfRow_24 (by decide) ?_
      exact re_z hf hr hlk hw (rfl) (by simp only [f_X10_isNoPartOfRow, if_pos c_1, if_neg c_2]) (rfl) dX10_isNoPartOfRow_28
theorem part_ok {rc : Nat} {x w : Int32} (h10 : rc ≤ 10) (h : f_X10_isNoPartOfRow rc x w = 0) : (x = nI (ix x) ∧ ix x < rc) ∧ w = nI (ix w) ∧ ix w < 3 := by
  unfold f_X10_isNoPartOfRow at h
  by_cases h1 : f_X10_isOutside x 0 (nI rc - 1) = 0
  · rw [if_pos h1] at h
    by_cases h2 : f_X10_isOutside w 0 2 = 0
    · have hw := out_n (N := 2) (by decide) h2
      refine ⟨?_, hw.1, by have := hw.2; omega⟩
      cases rc with
      | zero =>
        have h3 := out_0 h1
        have h4 : x ≤ nI 0 - 1 := Int32.not_lt.mp h3.2
        exfalso
        have h5 : (nI 0 - 1 : Int32) < 0 := by decide
        exact h3.1 (Int32.lt_of_le_of_lt h4 h5)
      | succ r =>
        rw [nI_pred] at h1
        have hx := out_n (N := r) (nI_toInt (by omega)) h1
        exact ⟨hx.1, by have := hx.2; omega⟩
    · rw [if_neg h2] at h; cases h
  · rw [if_neg h1] at h; cases h
theorem hdV_X10_isNoPartOfRow : yX10_isNoPartOfRow.cls = RX10 ∧ yX10_isNoPartOfRow.cls ≠ "java/lang/invoke/MethodHandle" ∧ yX10_isNoPartOfRow.cls ≠ "java/lang/invoke/VarHandle" ∧ (parseMethodDescriptor yX10_isNoPartOfRow.desc).map (fun d => d.parameters.length) = some 2 := by decide +kernel
def f_X10_row (rc : Nat) (x : Int32) (what : Int32) (rows : Nat → Int32) : Int32 := if (f_X10_isNoPartOfRow rc x what) = 0 then (rows (ix x * 3 + ix what)) else (-9)
abbrev rmX10_row : Room := { frames := 2, cells := 0, slots := 0, locals := 44 }
set_option maxHeartbeats 4000000 in
set_option maxRecDepth 100000 in
theorem c_X10_row (l : Launch) (g : GG) (lh : Nat) (t : Nat) (xt : Nat) (yt : Nat) (ak : Nat) (isk : Int32) (ltp : Nat) (lrw : Nat) (rc : Nat) (lac : Nat) (lsh : Nat) (lhh : Nat) (lhg : Nat) (lhr : Nat) (x : Int32) (what : Int32) (rows : Nat → Int32) (h10 : rc ≤ 10) : mtR l g yX10_row wsX10_row rmX10_row [.ref lh, .int x, .int what] [cob lh 10 [.ref ak, .ref t, .ref yt, .ref xt, .int isk, .ref ltp, .ref lrw, .int (nI rc), .ref lac, .ref lsh, .ref lhh, .ref lhg, .ref lhr], cin g lrw 30 rows] (fun rv W => rv = (some (.int (f_X10_row rc x what rows))) ∧ W = [cob lh 10 [.ref ak, .ref t, .ref yt, .ref xt, .int isk, .ref ltp, .ref lrw, .int (nI rc), .ref lac, .ref lsh, .ref lhh, .ref lhg, .ref lhr], cin g lrw 30 rows]) := by
  refine mtR.of (cc := cX10_row) (nL := 3) (ret := (some .int)) (own := RX10) (by decide +kernel) rfl rfl (Nat.le_of_ble_eq_true rfl) (fun p e s m below meth c hf hr hlk _ hk hst hw ls hl => ?_)
  have hx := hf.1
  have hb := hf.2.1
  have hts := hf.2.2.2.2
  have hl : lv_has ls 3 [(0, .ref lh), (1, .int x), (2, .int what)] := hl
  have hinX10 : ∀ w ∈ u_ws RX10 TX10 13, w ∈ wsX10_row := fun w h => List.mem_cons_of_mem _ (List.mem_append_right _ h)
  have w_0 : Cond.fieldLink RX10 57 "LightMan" "rows" "[I" ∈ wsX10_row := List.mem_of_getElem? (i := 1) rfl
  refine lv_aload_n hx hb dX10_row_0 rfl (lv_at hl 0 rfl) ?_
  refine lv_iload_n hx hb dX10_row_1 rfl (lv_at hl 1 rfl) ?_
  refine lv_iload_n hx hb dX10_row_2 rfl (lv_at hl 2 rfl) ?_
  refine mcV hf hk hst hw (c_X10_isNoPartOfRow l g lh t xt yt ak isk ltp lrw rc lac lsh lhh lhg lhr x what) (cwV 2 hts gX10_row_X10_isNoPartOfRow rfl rfl rfl hdV_X10_isNoPartOfRow ⟨Nat.le_of_ble_eq_true rfl, Nat.le_of_ble_eq_true rfl⟩) [0] rfl rfl 0 rfl rfl rfl hl.1 rfl (Nat.le_of_ble_eq_true rfl) dX10_row_3 ⟨Nat.zero_le _, Nat.zero_le _⟩ (W' := [cob lh 10 [.ref ak, .ref t, .ref yt, .ref xt, .int isk, .ref ltp, .ref lrw, .int (nI rc), .ref lac, .ref lsh, .ref lhh, .ref lhg, .ref lhr], cin g lrw 30 rows]) rfl (fun H locs hw => ?_)
  refine lv_if_eq (tgt := 14) hx hb dX10_row_6 (by decide) (fun c_1 => ?_) (fun c_1 => ?_)
  · have hpo := part_ok h10 c_1
    have hp1 := hpo.1.2
    have hp2 := hpo.2.2
    refine lv_aload_n hx hb dX10_row_14 rfl (lv_at hl 0 rfl) ?_
    refine rg hf hk hw hinX10 0 rfl rfl 6 (by decide) w_0 rfl dX10_row_15 ?_
    refine lv_iload_n hx hb dX10_row_18 rfl (lv_at hl 1 rfl) ?_
    refine lv_tope (y := nI (ix x)) hpo.1.1 ?_
    refine lv_iconst (v := 3) hx hb dX10_row_19 (by decide) ?_
    refine lv_imul hx hb dX10_row_20 ?_
    refine lv_tope (y := nI (ix x * 3)) (pk_mul _ 3) ?_
    refine lv_iload_n hx hb dX10_row_21 rfl (lv_at hl 2 rfl) ?_
    refine lv_tope (y := nI (ix what)) hpo.2.1 ?_
    refine lv_iadd hx hb dX10_row_22 ?_
    refine lv_tope (y := nI (ix x * 3 + ix what)) (nI_add _ _) ?_
    refine rij hf hk hw 1 rfl (j := ix x * 3 + ix what) (vp_in_nI (by omega) (by omega)) (nI_clamp (by omega)) dX10_row_23 ?_
    exact rE_i hf hr hlk hw ⟨congrArg some (by simp only [f_X10_row, if_pos c_1]), rfl⟩ (show ([lh, lrw] : List Nat) = [lh, lrw] from rfl) dX10_row_24
  · refine lv_bipush (v := (-9)) hx hb dX10_row_9 (by decide) ?_
    refine lv_goto (tgt := 24) hx hb dX10_row_11 (by decide) ?_
    exact rE_i hf hr hlk hw ⟨congrArg some (by simp only [f_X10_row, if_neg c_1]), rfl⟩ (show ([lh, lrw] : List Nat) = [lh, lrw] from rfl) dX10_row_24
def f_X10_alterRow (rc : Nat) (x : Int32) (what : Int32) (rows : Nat → Int32) : Int32 := if (f_X10_isNoPartOfRow rc x what) = 0 then (rows (ix x * 3 + ix what)) else (-9)
def f_X10_alterRow_w1 (rc : Nat) (x : Int32) (what : Int32) (v : Int32) (rows : Nat → Int32) : Nat → Int32 := if (f_X10_isNoPartOfRow rc x what) = 0 then (upd rows (ix x * 3 + ix what) v) else rows
abbrev rmX10_alterRow : Room := { frames := 2, cells := 0, slots := 0, locals := 44 }
set_option maxHeartbeats 4000000 in
set_option maxRecDepth 100000 in
theorem c_X10_alterRow (l : Launch) (g : GG) (lh : Nat) (t : Nat) (xt : Nat) (yt : Nat) (ak : Nat) (isk : Int32) (ltp : Nat) (lrw : Nat) (rc : Nat) (lac : Nat) (lsh : Nat) (lhh : Nat) (lhg : Nat) (lhr : Nat) (x : Int32) (what : Int32) (v : Int32) (rows : Nat → Int32) (h10 : rc ≤ 10) : mtR l g yX10_alterRow wsX10_alterRow rmX10_alterRow [.ref lh, .int x, .int what, .int v] [cob lh 10 [.ref ak, .ref t, .ref yt, .ref xt, .int isk, .ref ltp, .ref lrw, .int (nI rc), .ref lac, .ref lsh, .ref lhh, .ref lhg, .ref lhr], cin g lrw 30 rows] (fun rv W => rv = (some (.int (f_X10_alterRow rc x what rows))) ∧ W = [cob lh 10 [.ref ak, .ref t, .ref yt, .ref xt, .int isk, .ref ltp, .ref lrw, .int (nI rc), .ref lac, .ref lsh, .ref lhh, .ref lhg, .ref lhr], cin g lrw 30 (f_X10_alterRow_w1 rc x what v rows)]) := by
  refine mtR.of (cc := cX10_alterRow) (nL := 5) (ret := (some .int)) (own := RX10) (by decide +kernel) rfl rfl (Nat.le_of_ble_eq_true rfl) (fun p e s m below meth c hf hr hlk _ hk hst hw ls hl => ?_)
  have hx := hf.1
  have hb := hf.2.1
  have hts := hf.2.2.2.2
  have hl : lv_has ls 5 [(0, .ref lh), (1, .int x), (2, .int what), (3, .int v)] := hl
  have hinX10 : ∀ w ∈ u_ws RX10 TX10 13, w ∈ wsX10_alterRow := fun w h => List.mem_cons_of_mem _ (List.mem_append_right _ h)
  have w_0 : Cond.fieldLink RX10 57 "LightMan" "rows" "[I" ∈ wsX10_alterRow := List.mem_of_getElem? (i := 1) rfl
  refine lv_aload_n hx hb dX10_alterRow_0 rfl (lv_at hl 0 rfl) ?_
  refine lv_iload_n hx hb dX10_alterRow_1 rfl (lv_at hl 1 rfl) ?_
  refine lv_iload_n hx hb dX10_alterRow_2 rfl (lv_at hl 2 rfl) ?_
  refine mcV hf hk hst hw (c_X10_isNoPartOfRow l g lh t xt yt ak isk ltp lrw rc lac lsh lhh lhg lhr x what) (cwV 2 hts gX10_alterRow_X10_isNoPartOfRow rfl rfl rfl hdV_X10_isNoPartOfRow ⟨Nat.le_of_ble_eq_true rfl, Nat.le_of_ble_eq_true rfl⟩) [0] rfl rfl 0 rfl rfl rfl hl.1 rfl (Nat.le_of_ble_eq_true rfl) dX10_alterRow_3 ⟨Nat.zero_le _, Nat.zero_le _⟩ (W' := [cob lh 10 [.ref ak, .ref t, .ref yt, .ref xt, .int isk, .ref ltp, .ref lrw, .int (nI rc), .ref lac, .ref lsh, .ref lhh, .ref lhg, .ref lhr], cin g lrw 30 rows]) rfl (fun H locs hw => ?_)
  refine lv_if_eq (tgt := 12) hx hb dX10_alterRow_6 (by decide) (fun c_1 => ?_) (fun c_1 => ?_)
  · have hpo := part_ok h10 c_1
    have hp1 := hpo.1.2
    have hp2 := hpo.2.2
    refine lv_aload_n hx hb dX10_alterRow_12 rfl (lv_at hl 0 rfl) ?_
    refine rg hf hk hw hinX10 0 rfl rfl 6 (by decide) w_0 rfl dX10_alterRow_13 ?_
    refine lv_iload_n hx hb dX10_alterRow_16 rfl (lv_at hl 1 rfl) ?_
    refine lv_tope (y := nI (ix x)) hpo.1.1 ?_
    refine lv_iconst (v := 3) hx hb dX10_alterRow_17 (by decide) ?_
    refine lv_imul hx hb dX10_alterRow_18 ?_
    refine lv_tope (y := nI (ix x * 3)) (pk_mul _ 3) ?_
    refine lv_iload_n hx hb dX10_alterRow_19 rfl (lv_at hl 2 rfl) ?_
    refine lv_tope (y := nI (ix what)) hpo.2.1 ?_
    refine lv_iadd hx hb dX10_alterRow_20 ?_
    refine lv_tope (y := nI (ix x * 3 + ix what)) (nI_add _ _) ?_
    refine rij hf hk hw 1 rfl (j := ix x * 3 + ix what) (vp_in_nI (by omega) (by omega)) (nI_clamp (by omega)) dX10_alterRow_21 ?_
    refine lv_istore (lv' := [(4, .int (rows (ix x * 3 + ix what))), (0, .ref lh), (1, .int x), (2, .int what), (3, .int v)]) hx hb dX10_alterRow_22 hl (by decide) rfl (fun ls hl => ?_)
    refine lv_aload_n hx hb dX10_alterRow_24 rfl (lv_at hl 1 rfl) ?_
    refine rg hf hk hw hinX10 0 rfl rfl 6 (by decide) w_0 rfl dX10_alterRow_25 ?_
    refine lv_iload_n hx hb dX10_alterRow_28 rfl (lv_at hl 2 rfl) ?_
    refine lv_tope (y := nI (ix x)) hpo.1.1 ?_
    refine lv_iconst (v := 3) hx hb dX10_alterRow_29 (by decide) ?_
    refine lv_imul hx hb dX10_alterRow_30 ?_
    refine lv_tope (y := nI (ix x * 3)) (pk_mul _ 3) ?_
    refine lv_iload_n hx hb dX10_alterRow_31 rfl (lv_at hl 3 rfl) ?_
    refine lv_tope (y := nI (ix what)) hpo.2.1 ?_
    refine lv_iadd hx hb dX10_alterRow_32 ?_
    refine lv_tope (y := nI (ix x * 3 + ix what)) (nI_add _ _) ?_
    refine lv_iload_n hx hb dX10_alterRow_33 rfl (lv_at hl 4 rfl) ?_
    refine rsj hf hk hw 1 rfl (j := ix x * 3 + ix what) (vp_in_nI (by omega) (by omega)) (nI_clamp (by omega)) dX10_alterRow_34 (W' := [cob lh 10 [.ref ak, .ref t, .ref yt, .ref xt, .int isk, .ref ltp, .ref lrw, .int (nI rc), .ref lac, .ref lsh, .ref lhh, .ref lhg, .ref lhr], cin g lrw 30 (upd rows (ix x * 3 + ix what) v)]) rfl (fun H locs hw => ?_)
    refine lv_iload hx hb dX10_alterRow_35 (lv_at hl 0 rfl) ?_
    exact rE_i hf hr hlk hw ⟨congrArg some (by simp only [f_X10_alterRow, if_pos c_1]), by simp only [f_X10_alterRow_w1, if_pos c_1]⟩ (show ([lh, lrw] : List Nat) = [lh, lrw] from rfl) dX10_alterRow_37
  · refine lv_bipush (v := (-9)) hx hb dX10_alterRow_9 (by decide) ?_
    exact rE_i hf hr hlk hw ⟨congrArg some (by simp only [f_X10_alterRow, if_neg c_1]), by simp only [f_X10_alterRow_w1, if_neg c_1]⟩ (show ([lh, lrw] : List Nat) = [lh, lrw] from rfl) dX10_alterRow_11
theorem hdV_X8_movedEver : yX8_movedEver.cls = RX8 ∧ yX8_movedEver.cls ≠ "java/lang/invoke/MethodHandle" ∧ yX8_movedEver.cls ≠ "java/lang/invoke/VarHandle" ∧ (parseMethodDescriptor yX8_movedEver.desc).map (fun d => d.parameters.length) = some 0 := by decide +kernel
def f_X10_many (laws : Nat → Int32) (fogs : Nat → Int32) (arms : Nat → Int32) (kinds : Nat → Int32) (places : Nat → Int32) (moved : Nat → Int32) (cnt : Nat) (stp : Nat) (rc : Nat) (what : Int32) (tsz : Nat) (bg : Nat) : Int32 := if what = 0 then (nI cnt) else (if what = 1 then (bcF (setTo (thrs places) (cnt))) else (if what = 2 then (bcF (setTo (snows laws fogs arms stp kinds places) (cnt))) else (if what = 3 then (posTo moved (cnt)) else (if what = 4 then (nI rc) else (if what = 5 then (nI tsz) else (if what = 6 then (nI bg) else (-1)))))))
abbrev rmX10_many : Room := { frames := 6, cells := 0, slots := 0, locals := 135 }
set_option maxHeartbeats 4000000 in
set_option maxRecDepth 100000 in
theorem c_X10_many (l : Launch) (g : GG) (lh : Nat) (t : Nat) (tl : Nat) (tf : Nat) (ta : Nat) (tk : Nat) (tg : Nat) (tp : Nat) (tm : Nat) (laws : Nat → Int32) (fogs : Nat → Int32) (arms : Nat → Int32) (kinds : Nat → Int32) (faiths : Nat → Int32) (places : Nat → Int32) (moved : Nat → Int32) (cnt : Nat) (stp : Nat) (z : Int32) (xt : Nat) (yt : Nat) (ak : Nat) (k0 : Nat) (k1 : Nat) (k2 : Nat) (k3 : Nat) (k4 : Nat) (k5 : Nat) (isk : Int32) (ltp : Nat) (lrw : Nat) (rc : Nat) (lac : Nat) (lsh : Nat) (lhh : Nat) (lhg : Nat) (lhr : Nat) (what : Int32) (lby : Nat) (tsz : Nat) (tso : Int32) (tst : Int32) (ten : Int32) (an : Int32) (ap : Int32) (ab : Int32) (bg : Nat) (lbd : Nat) (hc8 : cnt ≤ 8) (hsp : stp < 2 ^ 29) (hkd : ∀ j, j < cnt → isK (kinds j)) : mtR l g yX10_many wsX10_many rmX10_many [.ref lh, .int what] [cob lh 10 [.ref ak, .ref t, .ref yt, .ref xt, .int isk, .ref ltp, .ref lrw, .int (nI rc), .ref lac, .ref lsh, .ref lhh, .ref lhg, .ref lhr], cob t 8 [.ref ak, .ref tl, .ref tf, .ref ta, .ref tk, .ref tg, .ref tp, .ref tm, .int (nI cnt), .int (nI stp), .int z], cin g tl 4 laws, cin g tf 6 fogs, cin g ta 6 arms, cin g tk 8 kinds, cin g tg 8 faiths, cin g tp 8 places, cin g tm 8 moved, ckd g ak 6 (kdf k0 k1 k2 k3 k4 k5), cob k0 4 [], cob k1 2 [], cob k2 5 [], cob k3 6 [], cob k4 9 [], cob k5 1 [], cob ltp 7 [.ref lby, .int (nI tsz), .int tso, .int tst, .int ten], cob lac 0 [.int an, .int ap, .int ab, .int (nI bg), .ref lbd]] (fun rv W => rv = (some (.int (f_X10_many laws fogs arms kinds places moved cnt stp rc what tsz bg))) ∧ W = [cob lh 10 [.ref ak, .ref t, .ref yt, .ref xt, .int isk, .ref ltp, .ref lrw, .int (nI rc), .ref lac, .ref lsh, .ref lhh, .ref lhg, .ref lhr], cob t 8 [.ref ak, .ref tl, .ref tf, .ref ta, .ref tk, .ref tg, .ref tp, .ref tm, .int (nI cnt), .int (nI stp), .int z], cin g tl 4 laws, cin g tf 6 fogs, cin g ta 6 arms, cin g tk 8 kinds, cin g tg 8 faiths, cin g tp 8 places, cin g tm 8 moved, ckd g ak 6 (kdf k0 k1 k2 k3 k4 k5), cob k0 4 [], cob k1 2 [], cob k2 5 [], cob k3 6 [], cob k4 9 [], cob k5 1 [], cob ltp 7 [.ref lby, .int (nI tsz), .int tso, .int tst, .int ten], cob lac 0 [.int an, .int ap, .int ab, .int (nI bg), .ref lbd]]) := by
  refine mtR.of (cc := cX10_many) (nL := 2) (ret := (some .int)) (own := RX10) (by decide +kernel) rfl rfl (Nat.le_of_ble_eq_true rfl) (fun p e s m below meth c hf hr hlk _ hk hst hw ls hl => ?_)
  have hx := hf.1
  have hb := hf.2.1
  have hts := hf.2.2.2.2
  have hl : lv_has ls 2 [(0, .ref lh), (1, .int what)] := hl
  have hinX10 : ∀ w ∈ u_ws RX10 TX10 13, w ∈ wsX10_many := fun w h => List.mem_cons_of_mem _ (List.mem_append_left _ (List.mem_append_left _ (List.mem_append_left _ (List.mem_append_right _ h))))
  have w_0 : Cond.fieldLink RX10 36 "LightMan" "now" "LLightMan$Tunnel;" ∈ wsX10_many := List.mem_of_getElem? (i := 1) rfl
  have hinX8 : ∀ w ∈ u_ws RX8 TX8 11, w ∈ wsX10_many := fun w h => List.mem_cons_of_mem _ (List.mem_append_left _ (List.mem_append_left _ (List.mem_append_right _ h)))
  have w_1 : Cond.fieldLink RX10 109 "LightMan$Tunnel" "count" "I" ∈ wsX10_many := List.mem_of_getElem? (i := 2) rfl
  have w_2 : Cond.fieldLink RX10 61 "LightMan" "rowCount" "I" ∈ wsX10_many := List.mem_of_getElem? (i := 3) rfl
  have w_3 : Cond.fieldLink RX10 53 "LightMan" "tape" "LLightMan$Tape;" ∈ wsX10_many := List.mem_of_getElem? (i := 4) rfl
  have hinX7 : ∀ w ∈ u_ws RX7 TX7 5, w ∈ wsX10_many := fun w h => List.mem_cons_of_mem _ (List.mem_append_left _ (List.mem_append_right _ h))
  have w_4 : Cond.fieldLink RX10 95 "LightMan$Tape" "size" "I" ∈ wsX10_many := List.mem_of_getElem? (i := 5) rfl
  have w_5 : Cond.fieldLink RX10 68 "LightMan" "acting" "LLightMan$Acting;" ∈ wsX10_many := List.mem_of_getElem? (i := 6) rfl
  have hinX0 : ∀ w ∈ u_ws RX0 TX0 5, w ∈ wsX10_many := fun w h => List.mem_cons_of_mem _ (List.mem_append_right _ h)
  have w_6 : Cond.fieldLink RX10 281 "LightMan$Acting" "began" "I" ∈ wsX10_many := List.mem_of_getElem? (i := 7) rfl
  refine lv_iload_n hx hb dX10_many_0 rfl (lv_at hl 1 rfl) ?_
  by_cases c_2 : what = 0
  · refine lv_tableIn (off := 43) (tgt := 44) hx hb dX10_many_1 (by rw [c_2]; decide) (by rw [c_2]; decide) (by rw [c_2]; rfl) (by decide) ?_
    refine lv_aload_n hx hb dX10_many_44 rfl (lv_at hl 0 rfl) ?_
    refine rg hf hk hw hinX10 0 rfl rfl 1 (by decide) w_0 rfl dX10_many_45 ?_
    refine rg hf hk hw hinX8 1 rfl rfl 8 (by decide) w_1 rfl dX10_many_48 ?_
    exact rE_i hf hr hlk hw ⟨congrArg some (by simp only [f_X10_many, if_pos c_2]), rfl⟩ (show ([lh, t, tl, tf, ta, tk, tg, tp, tm, ak, k0, k1, k2, k3, k4, k5, ltp, lac] : List Nat) = [lh, t, tl, tf, ta, tk, tg, tp, tm, ak, k0, k1, k2, k3, k4, k5, ltp, lac] from rfl) dX10_many_51
  by_cases c_3 : what = 1
  · refine lv_tableIn (off := 51) (tgt := 52) hx hb dX10_many_1 (by rw [c_3]; decide) (by rw [c_3]; decide) (by rw [c_3]; rfl) (by decide) ?_
    refine lv_aload_n hx hb dX10_many_52 rfl (lv_at hl 0 rfl) ?_
    refine rg hf hk hw hinX10 0 rfl rfl 1 (by decide) w_0 rfl dX10_many_53 ?_
    refine mcV hf hk hst hw (c_X8_throughSet l g t tl tf ta tk tg tp tm places cnt stp z ak (by omega)) (cwV 0 hts gX10_many_X8_throughSet rfl rfl rfl hdV_X8_throughSet ⟨Nat.le_of_ble_eq_true rfl, Nat.le_of_ble_eq_true rfl⟩) [1, 7] rfl rfl 1 rfl rfl rfl hl.1 rfl (Nat.le_of_ble_eq_true rfl) dX10_many_56 ⟨Nat.zero_le _, Nat.zero_le _⟩ (W' := [cob lh 10 [.ref ak, .ref t, .ref yt, .ref xt, .int isk, .ref ltp, .ref lrw, .int (nI rc), .ref lac, .ref lsh, .ref lhh, .ref lhg, .ref lhr], cob t 8 [.ref ak, .ref tl, .ref tf, .ref ta, .ref tk, .ref tg, .ref tp, .ref tm, .int (nI cnt), .int (nI stp), .int z], cin g tl 4 laws, cin g tf 6 fogs, cin g ta 6 arms, cin g tk 8 kinds, cin g tg 8 faiths, cin g tp 8 places, cin g tm 8 moved, ckd g ak 6 (kdf k0 k1 k2 k3 k4 k5), cob k0 4 [], cob k1 2 [], cob k2 5 [], cob k3 6 [], cob k4 9 [], cob k5 1 [], cob ltp 7 [.ref lby, .int (nI tsz), .int tso, .int tst, .int ten], cob lac 0 [.int an, .int ap, .int ab, .int (nI bg), .ref lbd]]) rfl (fun H locs hw => ?_)
    refine mcS hf hk hst hw (c_J6_bitCount_0f7a4 l g (setTo (thrs places) (cnt))) (va_cwS 1 hts gX10_many_J6_bitCount_0f7a4 rfl rfl rfl hdS_J6_bitCount_0f7a4 ⟨Nat.le_of_ble_eq_true rfl, Nat.le_of_ble_eq_true rfl⟩) [] rfl rfl rfl hl.1 rfl (Nat.le_of_ble_eq_true rfl) dX10_many_59 ⟨Nat.zero_le _, Nat.zero_le _⟩ (W' := [cob lh 10 [.ref ak, .ref t, .ref yt, .ref xt, .int isk, .ref ltp, .ref lrw, .int (nI rc), .ref lac, .ref lsh, .ref lhh, .ref lhg, .ref lhr], cob t 8 [.ref ak, .ref tl, .ref tf, .ref ta, .ref tk, .ref tg, .ref tp, .ref tm, .int (nI cnt), .int (nI stp), .int z], cin g tl 4 laws, cin g tf 6 fogs, cin g ta 6 arms, cin g tk 8 kinds, cin g tg 8 faiths, cin g tp 8 places, cin g tm 8 moved, ckd g ak 6 (kdf k0 k1 k2 k3 k4 k5), cob k0 4 [], cob k1 2 [], cob k2 5 [], cob k3 6 [], cob k4 9 [], cob k5 1 [], cob ltp 7 [.ref lby, .int (nI tsz), .int tso, .int tst, .int ten], cob lac 0 [.int an, .int ap, .int ab, .int (nI bg), .ref lbd]]) rfl (fun H locs hw => ?_)
    exact rE_i hf hr hlk hw ⟨congrArg some (by simp only [f_X10_many, if_neg c_2, if_pos c_3]), rfl⟩ (show ([lh, t, tl, tf, ta, tk, tg, tp, tm, ak, k0, k1, k2, k3, k4, k5, ltp, lac] : List Nat) = [lh, t, tl, tf, ta, tk, tg, tp, tm, ak, k0, k1, k2, k3, k4, k5, ltp, lac] from rfl) dX10_many_62
  by_cases c_4 : what = 2
  · refine lv_tableIn (off := 62) (tgt := 63) hx hb dX10_many_1 (by rw [c_4]; decide) (by rw [c_4]; decide) (by rw [c_4]; rfl) (by decide) ?_
    refine lv_aload_n hx hb dX10_many_63 rfl (lv_at hl 0 rfl) ?_
    refine rg hf hk hw hinX10 0 rfl rfl 1 (by decide) w_0 rfl dX10_many_64 ?_
    refine mcV hf hk hst hw (c_X8_seeingSet l g t tl tf ta tk tg tp tm laws fogs arms kinds faiths places moved cnt stp z ak k0 k1 k2 k3 k4 k5 (by omega) (by omega) (by assumption)) (cwV 0 hts gX10_many_X8_seeingSet rfl rfl rfl hdV_X8_seeingSet ⟨Nat.le_of_ble_eq_true rfl, Nat.le_of_ble_eq_true rfl⟩) [1, 2, 3, 4, 5, 6, 7, 8, 9, 10, 11, 12, 13, 14, 15] rfl rfl 1 rfl rfl rfl hl.1 rfl (Nat.le_of_ble_eq_true rfl) dX10_many_67 ⟨Nat.zero_le _, Nat.zero_le _⟩ (W' := [cob lh 10 [.ref ak, .ref t, .ref yt, .ref xt, .int isk, .ref ltp, .ref lrw, .int (nI rc), .ref lac, .ref lsh, .ref lhh, .ref lhg, .ref lhr], cob t 8 [.ref ak, .ref tl, .ref tf, .ref ta, .ref tk, .ref tg, .ref tp, .ref tm, .int (nI cnt), .int (nI stp), .int z], cin g tl 4 laws, cin g tf 6 fogs, cin g ta 6 arms, cin g tk 8 kinds, cin g tg 8 faiths, cin g tp 8 places, cin g tm 8 moved, ckd g ak 6 (kdf k0 k1 k2 k3 k4 k5), cob k0 4 [], cob k1 2 [], cob k2 5 [], cob k3 6 [], cob k4 9 [], cob k5 1 [], cob ltp 7 [.ref lby, .int (nI tsz), .int tso, .int tst, .int ten], cob lac 0 [.int an, .int ap, .int ab, .int (nI bg), .ref lbd]]) rfl (fun H locs hw => ?_)
    refine mcS hf hk hst hw (c_J6_bitCount_0f7a4 l g (setTo (snows laws fogs arms stp kinds places) (cnt))) (va_cwS 1 hts gX10_many_J6_bitCount_0f7a4 rfl rfl rfl hdS_J6_bitCount_0f7a4 ⟨Nat.le_of_ble_eq_true rfl, Nat.le_of_ble_eq_true rfl⟩) [] rfl rfl rfl hl.1 rfl (Nat.le_of_ble_eq_true rfl) dX10_many_70 ⟨Nat.zero_le _, Nat.zero_le _⟩ (W' := [cob lh 10 [.ref ak, .ref t, .ref yt, .ref xt, .int isk, .ref ltp, .ref lrw, .int (nI rc), .ref lac, .ref lsh, .ref lhh, .ref lhg, .ref lhr], cob t 8 [.ref ak, .ref tl, .ref tf, .ref ta, .ref tk, .ref tg, .ref tp, .ref tm, .int (nI cnt), .int (nI stp), .int z], cin g tl 4 laws, cin g tf 6 fogs, cin g ta 6 arms, cin g tk 8 kinds, cin g tg 8 faiths, cin g tp 8 places, cin g tm 8 moved, ckd g ak 6 (kdf k0 k1 k2 k3 k4 k5), cob k0 4 [], cob k1 2 [], cob k2 5 [], cob k3 6 [], cob k4 9 [], cob k5 1 [], cob ltp 7 [.ref lby, .int (nI tsz), .int tso, .int tst, .int ten], cob lac 0 [.int an, .int ap, .int ab, .int (nI bg), .ref lbd]]) rfl (fun H locs hw => ?_)
    exact rE_i hf hr hlk hw ⟨congrArg some (by simp only [f_X10_many, if_neg c_2, if_neg c_3, if_pos c_4]), rfl⟩ (show ([lh, t, tl, tf, ta, tk, tg, tp, tm, ak, k0, k1, k2, k3, k4, k5, ltp, lac] : List Nat) = [lh, t, tl, tf, ta, tk, tg, tp, tm, ak, k0, k1, k2, k3, k4, k5, ltp, lac] from rfl) dX10_many_73
  by_cases c_5 : what = 3
  · refine lv_tableIn (off := 73) (tgt := 74) hx hb dX10_many_1 (by rw [c_5]; decide) (by rw [c_5]; decide) (by rw [c_5]; rfl) (by decide) ?_
    refine lv_aload_n hx hb dX10_many_74 rfl (lv_at hl 0 rfl) ?_
    refine rg hf hk hw hinX10 0 rfl rfl 1 (by decide) w_0 rfl dX10_many_75 ?_
    refine mcV hf hk hst hw (c_X8_movedEver l g t tl tf ta tk tg tp tm moved cnt stp z ak (by omega)) (cwV 0 hts gX10_many_X8_movedEver rfl rfl rfl hdV_X8_movedEver ⟨Nat.le_of_ble_eq_true rfl, Nat.le_of_ble_eq_true rfl⟩) [1, 8] rfl rfl 1 rfl rfl rfl hl.1 rfl (Nat.le_of_ble_eq_true rfl) dX10_many_78 ⟨Nat.zero_le _, Nat.zero_le _⟩ (W' := [cob lh 10 [.ref ak, .ref t, .ref yt, .ref xt, .int isk, .ref ltp, .ref lrw, .int (nI rc), .ref lac, .ref lsh, .ref lhh, .ref lhg, .ref lhr], cob t 8 [.ref ak, .ref tl, .ref tf, .ref ta, .ref tk, .ref tg, .ref tp, .ref tm, .int (nI cnt), .int (nI stp), .int z], cin g tl 4 laws, cin g tf 6 fogs, cin g ta 6 arms, cin g tk 8 kinds, cin g tg 8 faiths, cin g tp 8 places, cin g tm 8 moved, ckd g ak 6 (kdf k0 k1 k2 k3 k4 k5), cob k0 4 [], cob k1 2 [], cob k2 5 [], cob k3 6 [], cob k4 9 [], cob k5 1 [], cob ltp 7 [.ref lby, .int (nI tsz), .int tso, .int tst, .int ten], cob lac 0 [.int an, .int ap, .int ab, .int (nI bg), .ref lbd]]) rfl (fun H locs hw => ?_)
    exact rE_i hf hr hlk hw ⟨congrArg some (by simp only [f_X10_many, if_neg c_2, if_neg c_3, if_neg c_4, if_pos c_5]), rfl⟩ (show ([lh, t, tl, tf, ta, tk, tg, tp, tm, ak, k0, k1, k2, k3, k4, k5, ltp, lac] : List Nat) = [lh, t, tl, tf, ta, tk, tg, tp, tm, ak, k0, k1, k2, k3, k4, k5, ltp, lac] from rfl) dX10_many_81
  by_cases c_6 : what = 4
  · refine lv_tableIn (off := 81) (tgt := 82) hx hb dX10_many_1 (by rw [c_6]; decide) (by rw [c_6]; decide) (by rw [c_6]; rfl) (by decide) ?_
    refine lv_aload_n hx hb dX10_many_82 rfl (lv_at hl 0 rfl) ?_
    refine rg hf hk hw hinX10 0 rfl rfl 7 (by decide) w_2 rfl dX10_many_83 ?_
    exact rE_i hf hr hlk hw ⟨congrArg some (by simp only [f_X10_many, if_neg c_2, if_neg c_3, if_neg c_4, if_neg c_5, if_pos c_6]), rfl⟩ (show ([lh, t, tl, tf, ta, tk, tg, tp, tm, ak, k0, k1, k2, k3, k4, k5, ltp, lac] : List Nat) = [lh, t, tl, tf, ta, tk, tg, tp, tm, ak, k0, k1, k2, k3, k4, k5, ltp, lac] from rfl) dX10_many_86
  by_cases c_7 : what = 5
  · refine lv_tableIn (off := 86) (tgt := 87) hx hb dX10_many_1 (by rw [c_7]; decide) (by rw [c_7]; decide) (by rw [c_7]; rfl) (by decide) ?_
    refine lv_aload_n hx hb dX10_many_87 rfl (lv_at hl 0 rfl) ?_
    refine rg hf hk hw hinX10 0 rfl rfl 5 (by decide) w_3 rfl dX10_many_88 ?_
    refine rg hf hk hw hinX7 16 rfl rfl 1 (by decide) w_4 rfl dX10_many_91 ?_
    exact rE_i hf hr hlk hw ⟨congrArg some (by simp only [f_X10_many, if_neg c_2, if_neg c_3, if_neg c_4, if_neg c_5, if_neg c_6, if_pos c_7]), rfl⟩ (show ([lh, t, tl, tf, ta, tk, tg, tp, tm, ak, k0, k1, k2, k3, k4, k5, ltp, lac] : List Nat) = [lh, t, tl, tf, ta, tk, tg, tp, tm, ak, k0, k1, k2, k3, k4, k5, ltp, lac] from rfl) dX10_many_94
  by_cases c_8 : what = 6
  · refine lv_tableIn (off := 94) (tgt := 95) hx hb dX10_many_1 (by rw [c_8]; decide) (by rw [c_8]; decide) (by rw [c_8]; rfl) (by decide) ?_
    refine lv_aload_n hx hb dX10_many_95 rfl (lv_at hl 0 rfl) ?_
    refine rg hf hk hw hinX10 0 rfl rfl 8 (by decide) w_5 rfl dX10_many_96 ?_
    refine rg hf hk hw hinX0 17 rfl rfl 3 (by decide) w_6 rfl dX10_many_99 ?_
    exact rE_i hf hr hlk hw ⟨congrArg some (by simp only [f_X10_many, if_neg c_2, if_neg c_3, if_neg c_4, if_neg c_5, if_neg c_6, if_neg c_7, if_pos c_8]), rfl⟩ (show ([lh, t, tl, tf, ta, tk, tg, tp, tm, ak, k0, k1, k2, k3, k4, k5, ltp, lac] : List Nat) = [lh, t, tl, tf, ta, tk, tg, tp, tm, ak, k0, k1, k2, k3, k4, k5, ltp, lac] from rfl) dX10_many_102
  refine lv_tableOut (tgt := 103) hx hb dX10_many_1 (sw_o2 0 6 [0, 1, 2, 3, 4, 5, 6] (by decide) (by decide) (by simp only [List.mem_cons, List.not_mem_nil, or_false, not_or]; exact ⟨c_2, c_3, c_4, c_5, c_6, c_7, c_8⟩)) (by decide) ?_
  refine lv_iconst (v := (-1)) hx hb dX10_many_103 (by decide) ?_
  exact rE_i hf hr hlk hw ⟨congrArg some (by simp only [f_X10_many, if_neg c_2, if_neg c_3, if_neg c_4, if_neg c_5, if_neg c_6, if_neg c_7, if_neg c_8]), rfl⟩ (show ([lh, t, tl, tf, ta, tk, tg, tp, tm, ak, k0, k1, k2, k3, k4, k5, ltp, lac] : List Nat) = [lh, t, tl, tf, ta, tk, tg, tp, tm, ak, k0, k1, k2, k3, k4, k5, ltp, lac] from rfl) dX10_many_104
theorem tr_ok {n : Nat} {x : Int32} (hn : n ≤ 30) (h : f_X10_isOutside x 0 (nI n - 1) = 0) : x = nI (ix x) ∧ ix x < n := by
  cases n with
  | zero =>
    have h3 := out_0 h
    have h4 : x ≤ nI 0 - 1 := Int32.not_lt.mp h3.2
    exfalso
    have h5 : (nI 0 - 1 : Int32) < 0 := by decide
    exact h3.1 (Int32.lt_of_le_of_lt h4 h5)
  | succ r =>
    rw [nI_pred] at h
    have hx := out_n (N := r) (nI_toInt (by omega)) h
    exact ⟨hx.1, by have := hx.2; omega⟩
def f_X10_trace (x : Int32) (bg : Nat) (bod : Nat → Int32) : Int32 := if (f_X10_isOutside x 0 ((nI bg) - 1)) = 0 then (bod (ix x)) else (-3)
abbrev rmX10_trace : Room := { frames := 1, cells := 0, slots := 0, locals := 22 }
set_option maxHeartbeats 4000000 in
set_option maxRecDepth 100000 in
theorem c_X10_trace (l : Launch) (g : GG) (lh : Nat) (t : Nat) (xt : Nat) (yt : Nat) (ak : Nat) (isk : Int32) (ltp : Nat) (lrw : Nat) (rc : Nat) (lac : Nat) (lsh : Nat) (lhh : Nat) (lhg : Nat) (lhr : Nat) (x : Int32) (an : Int32) (ap : Int32) (ab : Int32) (bg : Nat) (lbd : Nat) (bod : Nat → Int32) (hbg : bg ≤ 30) : mtR l g yX10_trace wsX10_trace rmX10_trace [.ref lh, .int x] [cob lh 10 [.ref ak, .ref t, .ref yt, .ref xt, .int isk, .ref ltp, .ref lrw, .int (nI rc), .ref lac, .ref lsh, .ref lhh, .ref lhg, .ref lhr], cob lac 0 [.int an, .int ap, .int ab, .int (nI bg), .ref lbd], cin g lbd 30 bod] (fun rv W => rv = (some (.int (f_X10_trace x bg bod))) ∧ W = [cob lh 10 [.ref ak, .ref t, .ref yt, .ref xt, .int isk, .ref ltp, .ref lrw, .int (nI rc), .ref lac, .ref lsh, .ref lhh, .ref lhg, .ref lhr], cob lac 0 [.int an, .int ap, .int ab, .int (nI bg), .ref lbd], cin g lbd 30 bod]) := by
  refine mtR.of (cc := cX10_trace) (nL := 2) (ret := (some .int)) (own := RX10) (by decide +kernel) rfl rfl (Nat.le_of_ble_eq_true rfl) (fun p e s m below meth c hf hr hlk _ hk hst hw ls hl => ?_)
  have hx := hf.1
  have hb := hf.2.1
  have hts := hf.2.2.2.2
  have hl : lv_has ls 2 [(0, .ref lh), (1, .int x)] := hl
  have hinX10 : ∀ w ∈ u_ws RX10 TX10 13, w ∈ wsX10_trace := fun w h => List.mem_cons_of_mem _ (List.mem_append_left _ (List.mem_append_right _ h))
  have w_0 : Cond.fieldLink RX10 68 "LightMan" "acting" "LLightMan$Acting;" ∈ wsX10_trace := List.mem_of_getElem? (i := 1) rfl
  have hinX0 : ∀ w ∈ u_ws RX0 TX0 5, w ∈ wsX10_trace := fun w h => List.mem_cons_of_mem _ (List.mem_append_right _ h)
  have w_1 : Cond.fieldLink RX10 281 "LightMan$Acting" "began" "I" ∈ wsX10_trace := List.mem_of_getElem? (i := 2) rfl
  have w_2 : Cond.fieldLink RX10 306 "LightMan$Acting" "bodies" "[I" ∈ wsX10_trace := List.mem_of_getElem? (i := 3) rfl
  refine lv_iload_n hx hb dX10_trace_0 rfl (lv_at hl 1 rfl) ?_
  refine lv_iconst (v := 0) hx hb dX10_trace_1 (by decide) ?_
  refine lv_aload_n hx hb dX10_trace_2 rfl (lv_at hl 0 rfl) ?_
  refine rg hf hk hw hinX10 0 rfl rfl 8 (by decide) w_0 rfl dX10_trace_3 ?_
  refine rg hf hk hw hinX0 1 rfl rfl 3 (by decide) w_1 rfl dX10_trace_6 ?_
  refine lv_iconst (v := 1) hx hb dX10_trace_9 (by decide) ?_
  refine lv_isub hx hb dX10_trace_10 ?_
  refine mcS hf hk hst hw (c_X10_isOutside l g x 0 ((nI bg) - 1)) (va_cwS 3 hts gX10_trace_X10_isOutside rfl rfl rfl hdS_X10_isOutside ⟨Nat.le_of_ble_eq_true rfl, Nat.le_of_ble_eq_true rfl⟩) [] rfl rfl rfl hl.1 rfl (Nat.le_of_ble_eq_true rfl) dX10_trace_11 ⟨Nat.zero_le _, Nat.zero_le _⟩ (W' := [cob lh 10 [.ref ak, .ref t, .ref yt, .ref xt, .int isk, .ref ltp, .ref lrw, .int (nI rc), .ref lac, .ref lsh, .ref lhh, .ref lhg, .ref lhr], cob lac 0 [.int an, .int ap, .int ab, .int (nI bg), .ref lbd], cin g lbd 30 bod]) rfl (fun H locs hw => ?_)
  refine lv_if_eq (tgt := 22) hx hb dX10_trace_14 (by decide) (fun c_1 => ?_) (fun c_1 => ?_)
  · have htr := tr_ok hbg c_1
    have htr2 := htr.2
    refine lv_aload_n hx hb dX10_trace_22 rfl (lv_at hl 0 rfl) ?_
    refine rg hf hk hw hinX10 0 rfl rfl 8 (by decide) w_0 rfl dX10_trace_23 ?_
    refine rg hf hk hw hinX0 1 rfl rfl 4 (by decide) w_2 rfl dX10_trace_26 ?_
    refine lv_iload_n hx hb dX10_trace_29 rfl (lv_at hl 1 rfl) ?_
    refine lv_tope (y := nI (ix x)) htr.1 ?_
    refine rij hf hk hw 2 rfl (j := ix x) (vp_in_nI (by omega) (by omega)) (nI_clamp (by omega)) dX10_trace_30 ?_
    exact rE_i hf hr hlk hw ⟨congrArg some (by simp only [f_X10_trace, if_pos c_1]), rfl⟩ (show ([lh, lac, lbd] : List Nat) = [lh, lac, lbd] from rfl) dX10_trace_31
  · refine lv_bipush (v := (-3)) hx hb dX10_trace_17 (by decide) ?_
    refine lv_goto (tgt := 31) hx hb dX10_trace_19 (by decide) ?_
    exact rE_i hf hr hlk hw ⟨congrArg some (by simp only [f_X10_trace, if_neg c_1]), rfl⟩ (show ([lh, lac, lbd] : List Nat) = [lh, lac, lbd] from rfl) dX10_trace_31
/-- the rows of steps of one -/
def rowRV (laws fogs arms kinds : Nat → Int32) (cnt st : Nat) (fa pl mo : Nat → Int32) (q : Nat) : Nat → Int32 := fun j => f_X8_partOfRow (stA laws fogs arms kinds cnt st fa pl mo (j / 3 + 1)).1 (stA laws fogs arms kinds cnt st fa pl mo (j / 3 + 1)).2.1 cnt q (nI (j % 3))
def jdR (rows rv : Nat → Int32) : Nat → Nat → Int32
  | 0, _ => 0
  | m + 1, j => if rows j = rv j then jdR rows rv m (j + 1) else nI (j / 3) + 1
theorem goM_c {laws fogs arms : Nat → Int32} {st c : Nat} {k1 p1 m1 k2 p2 m2 : Nat → Int32} (h1 : ∀ j, j < c → k1 j = k2 j) (h3 : ∀ j, j < c → p1 j = p2 j) (h4 : ∀ j, j < c → m1 j = m2 j) : ∀ j, j < c → goM laws fogs arms st k1 p1 m1 c j = goM laws fogs arms st k2 p2 m2 c j := fun j hj => by
  unfold goM; simp only [if_pos hj]; rw [h1 j hj, h3 j hj, h4 j hj]
theorem stA_c {laws fogs arms : Nat → Int32} {st c : Nat} {k1 f1 p1 m1 k2 f2 p2 m2 : Nat → Int32} (h1 : ∀ j, j < c → k1 j = k2 j) (h2 : ∀ j, j < c → f1 j = f2 j) (h3 : ∀ j, j < c → p1 j = p2 j) (h4 : ∀ j, j < c → m1 j = m2 j) : ∀ n, (∀ j, j < c → (stA laws fogs arms k1 c st f1 p1 m1 n).1 j = (stA laws fogs arms k2 c st f2 p2 m2 n).1 j) ∧ (∀ j, j < c → (stA laws fogs arms k1 c st f1 p1 m1 n).2.1 j = (stA laws fogs arms k2 c st f2 p2 m2 n).2.1 j) ∧ ∀ j, j < c → (stA laws fogs arms k1 c st f1 p1 m1 n).2.2 j = (stA laws fogs arms k2 c st f2 p2 m2 n).2.2 j := by
  intro n
  induction n with
  | zero => exact ⟨h2, h3, h4⟩
  | succ n ih => exact ⟨goF_c h1 ih.1 ih.2.1, goP_c h1 ih.1 ih.2.1, goM_c h1 ih.2.1 ih.2.2⟩
theorem rowRV_c {laws fogs arms : Nat → Int32} {st c : Nat} {k1 f1 p1 m1 k2 f2 p2 m2 : Nat → Int32} (h1 : ∀ j, j < c → k1 j = k2 j) (h2 : ∀ j, j < c → f1 j = f2 j) (h3 : ∀ j, j < c → p1 j = p2 j) (h4 : ∀ j, j < c → m1 j = m2 j) {q : Nat} (hq : q < c) (k p : Nat) (hp : p < 3) : f_X8_partOfRow (stA laws fogs arms k1 c st f1 p1 m1 (k + 1)).1 (stA laws fogs arms k1 c st f1 p1 m1 (k + 1)).2.1 c q (nI p) = rowRV laws fogs arms k2 c st f2 p2 m2 q (3 * k + p) := by
  unfold rowRV
  rw [show (3 * k + p) / 3 = k by omega, show (3 * k + p) % 3 = p by omega]
  have hc := stA_c (laws := laws) (fogs := fogs) (arms := arms) (st := st) h1 h2 h3 h4 (k + 1)
  unfold f_X8_partOfRow
  have hs : setTo (thrs (stA laws fogs arms k1 c st f1 p1 m1 (k + 1)).2.1) c = setTo (thrs (stA laws fogs arms k2 c st f2 p2 m2 (k + 1)).2.1) c := setTo_c (fun j hj => by show thrF _ = thrF _; rw [hc.2.1 j hj])
  rw [hc.1 q hq, hc.2.1 q hq, hs]

theorem hdV_X8_partOfRow : yX8_partOfRow.cls = RX8 ∧ yX8_partOfRow.cls ≠ "java/lang/invoke/MethodHandle" ∧ yX8_partOfRow.cls ≠ "java/lang/invoke/VarHandle" ∧ (parseMethodDescriptor yX8_partOfRow.desc).map (fun d => d.parameters.length) = some 2 := by decide +kernel
abbrev rmX10_prove : Room := { frames := 6, cells := 0, slots := 0, locals := 138 }
set_option maxHeartbeats 4000000 in
set_option maxRecDepth 100000 in
theorem c_X10_prove (l : Launch) (g : GG) (lh : Nat) (t : Nat) (tl : Nat) (tf : Nat) (ta : Nat) (tk : Nat) (tg : Nat) (tp : Nat) (tm : Nat) (laws : Nat → Int32) (fogs : Nat → Int32) (arms : Nat → Int32) (kinds : Nat → Int32) (faiths : Nat → Int32) (places : Nat → Int32) (moved : Nat → Int32) (cnt : Nat) (stp : Nat) (z : Int32) (xt : Nat) (xtl : Nat) (xtf : Nat) (xta : Nat) (xtk : Nat) (xtg : Nat) (xtp : Nat) (xtm : Nat) (xlaws : Nat → Int32) (xfogs : Nat → Int32) (xarms : Nat → Int32) (xkinds : Nat → Int32) (xfaiths : Nat → Int32) (xplaces : Nat → Int32) (xmoved : Nat → Int32) (xcnt : Nat) (xstp : Nat) (xz : Int32) (yt : Nat) (ak : Nat) (k0 : Nat) (k1 : Nat) (k2 : Nat) (k3 : Nat) (k4 : Nat) (k5 : Nat) (isk : Int32) (ltp : Nat) (lrw : Nat) (rc : Nat) (lac : Nat) (lsh : Nat) (lhh : Nat) (lhg : Nat) (lhr : Nat) (goer : Int32) (n : Int32) (rows : Nat → Int32) (hc8 : cnt ≤ 8) (hsp : stp < 2 ^ 29) (hkd : ∀ j, j < cnt → isK (kinds j)) (h10 : rc ≤ 10) : mtR l g yX10_prove wsX10_prove rmX10_prove [.ref lh, .int goer, .int n] [cob lh 10 [.ref ak, .ref t, .ref yt, .ref xt, .int isk, .ref ltp, .ref lrw, .int (nI rc), .ref lac, .ref lsh, .ref lhh, .ref lhg, .ref lhr], cob t 8 [.ref ak, .ref tl, .ref tf, .ref ta, .ref tk, .ref tg, .ref tp, .ref tm, .int (nI cnt), .int (nI stp), .int z], cin g tl 4 laws, cin g tf 6 fogs, cin g ta 6 arms, cin g tk 8 kinds, cin g tg 8 faiths, cin g tp 8 places, cin g tm 8 moved, cob xt 8 [.ref ak, .ref xtl, .ref xtf, .ref xta, .ref xtk, .ref xtg, .ref xtp, .ref xtm, .int (nI xcnt), .int (nI xstp), .int xz], cin g xtl 4 xlaws, cin g xtf 6 xfogs, cin g xta 6 xarms, cin g xtk 8 xkinds, cin g xtg 8 xfaiths, cin g xtp 8 xplaces, cin g xtm 8 xmoved, ckd g ak 6 (kdf k0 k1 k2 k3 k4 k5), cob k0 4 [], cob k1 2 [], cob k2 5 [], cob k3 6 [], cob k4 9 [], cob k5 1 [], cin g lrw 30 rows] (fun rv W => rv = (some (.int (if f_X8_has cnt goer = 0 then -1 else if f_X10_isOutside n 1 10 = 0 then nI (ix n) else -1))) ∧ ∃ (j0 : Nat) (j1 : Nat) (j2 : Int32) (j3 : Nat → Int32) (j4 : Nat → Int32) (j5 : Nat → Int32) (j6 : Nat → Int32) (j7 : Nat → Int32) (j8 : Nat → Int32) (j9 : Nat → Int32), W = [cob lh 10 [.ref ak, .ref t, .ref yt, .ref xt, .int isk, .ref ltp, .ref lrw, .int (if f_X8_has cnt goer = 0 then nI rc else if f_X10_isOutside n 1 10 = 0 then nI (ix n) else nI rc), .ref lac, .ref lsh, .ref lhh, .ref lhg, .ref lhr], cob t 8 [.ref ak, .ref tl, .ref tf, .ref ta, .ref tk, .ref tg, .ref tp, .ref tm, .int (nI cnt), .int (nI stp), .int z], cin g tl 4 laws, cin g tf 6 fogs, cin g ta 6 arms, cin g tk 8 kinds, cin g tg 8 faiths, cin g tp 8 places, cin g tm 8 moved, cob xt 8 [.ref ak, .ref xtl, .ref xtf, .ref xta, .ref xtk, .ref xtg, .ref xtp, .ref xtm, .int (nI j0), .int (nI j1), .int j2], cin g xtl 4 j3, cin g xtf 6 j4, cin g xta 6 j5, cin g xtk 8 j6, cin g xtg 8 j7, cin g xtp 8 j8, cin g xtm 8 j9, ckd g ak 6 (kdf k0 k1 k2 k3 k4 k5), cob k0 4 [], cob k1 2 [], cob k2 5 [], cob k3 6 [], cob k4 9 [], cob k5 1 [], cin g lrw 30 (if f_X8_has cnt goer = 0 then rows else if f_X10_isOutside n 1 10 = 0 then cpT rows (rowRV laws fogs arms kinds cnt stp faiths places moved (ix goer)) (3 * ix n) else rows)]) := by
  refine mtR.of (cc := cX10_prove) (nL := 5) (ret := (some .int)) (own := RX10) (by decide +kernel) rfl rfl (Nat.le_of_ble_eq_true rfl) (fun p e s m below meth c hf hr hlk _ hk hst hw ls hl => ?_)
  have hx := hf.1
  have hb := hf.2.1
  have hts := hf.2.2.2.2
  have hl : lv_has ls 5 [(0, .ref lh), (1, .int goer), (2, .int n)] := hl
  have hinX10 : ∀ w ∈ u_ws RX10 TX10 13, w ∈ wsX10_prove := fun w h => List.mem_cons_of_mem _ (List.mem_append_left _ (List.mem_append_right _ h))
  have w_0 : Cond.fieldLink RX10 36 "LightMan" "now" "LLightMan$Tunnel;" ∈ wsX10_prove := List.mem_of_getElem? (i := 1) rfl
  have w_1 : Cond.fieldLink RX10 43 "LightMan" "tried" "LLightMan$Tunnel;" ∈ wsX10_prove := List.mem_of_getElem? (i := 2) rfl
  have w_2 : Cond.fieldLink RX10 61 "LightMan" "rowCount" "I" ∈ wsX10_prove := List.mem_of_getElem? (i := 4) rfl
  have w_3 : Cond.fieldLink RX10 57 "LightMan" "rows" "[I" ∈ wsX10_prove := List.mem_of_getElem? (i := 3) rfl
  refine lv_aload_n hx hb dX10_prove_0 rfl (lv_at hl 0 rfl) ?_
  refine rg hf hk hw hinX10 0 rfl rfl 1 (by decide) w_0 rfl dX10_prove_1 ?_
  refine lv_iload_n hx hb dX10_prove_4 rfl (lv_at hl 1 rfl) ?_
  refine mcV hf hk hst hw (c_X8_has l g t tl tf ta tk tg tp tm cnt stp z ak goer) (cwV 1 hts gX10_prove_X8_has rfl rfl rfl hdV_X8_has ⟨Nat.le_of_ble_eq_true rfl, Nat.le_of_ble_eq_true rfl⟩) [1] rfl rfl 1 rfl rfl rfl hl.1 rfl (Nat.le_of_ble_eq_true rfl) dX10_prove_5 ⟨Nat.zero_le _, Nat.zero_le _⟩ (W' := [cob lh 10 [.ref ak, .ref t, .ref yt, .ref xt, .int isk, .ref ltp, .ref lrw, .int (nI rc), .ref lac, .ref lsh, .ref lhh, .ref lhg, .ref lhr], cob t 8 [.ref ak, .ref tl, .ref tf, .ref ta, .ref tk, .ref tg, .ref tp, .ref tm, .int (nI cnt), .int (nI stp), .int z], cin g tl 4 laws, cin g tf 6 fogs, cin g ta 6 arms, cin g tk 8 kinds, cin g tg 8 faiths, cin g tp 8 places, cin g tm 8 moved, cob xt 8 [.ref ak, .ref xtl, .ref xtf, .ref xta, .ref xtk, .ref xtg, .ref xtp, .ref xtm, .int (nI xcnt), .int (nI xstp), .int xz], cin g xtl 4 xlaws, cin g xtf 6 xfogs, cin g xta 6 xarms, cin g xtk 8 xkinds, cin g xtg 8 xfaiths, cin g xtp 8 xplaces, cin g xtm 8 xmoved, ckd g ak 6 (kdf k0 k1 k2 k3 k4 k5), cob k0 4 [], cob k1 2 [], cob k2 5 [], cob k3 6 [], cob k4 9 [], cob k5 1 [], cin g lrw 30 rows]) rfl (fun H locs hw => ?_)
  refine lv_if_eq (tgt := 21) hx hb dX10_prove_8 (by decide) (fun c_1 => ?_) (fun c_1 => ?_)
  · refine lv_iconst (v := (-1)) hx hb dX10_prove_21 (by decide) ?_
    exact rE_i hf hr hlk hw ⟨congrArg some (by simp only [if_pos c_1]), xcnt, xstp, xz, xlaws, xfogs, xarms, xkinds, xfaiths, xplaces, xmoved, by simp only [if_pos c_1]⟩ (show ([lh, t, tl, tf, ta, tk, tg, tp, tm, xt, xtl, xtf, xta, xtk, xtg, xtp, xtm, ak, k0, k1, k2, k3, k4, k5, lrw] : List Nat) = [lh, t, tl, tf, ta, tk, tg, tp, tm, xt, xtl, xtf, xta, xtk, xtg, xtp, xtm, ak, k0, k1, k2, k3, k4, k5, lrw] from rfl) dX10_prove_22
  · have hg := has_n hc8 c_1
    have hg2 := hg.2
    refine lv_iload_n hx hb dX10_prove_11 rfl (lv_at hl 2 rfl) ?_
    refine lv_iconst (v := 1) hx hb dX10_prove_12 (by decide) ?_
    refine lv_bipush (v := 10) hx hb dX10_prove_13 (by decide) ?_
    refine mcS hf hk hst hw (c_X10_isOutside l g n 1 10) (va_cwS 3 hts gX10_prove_X10_isOutside rfl rfl rfl hdS_X10_isOutside ⟨Nat.le_of_ble_eq_true rfl, Nat.le_of_ble_eq_true rfl⟩) [] rfl rfl rfl hl.1 rfl (Nat.le_of_ble_eq_true rfl) dX10_prove_15 ⟨Nat.zero_le _, Nat.zero_le _⟩ (W' := [cob lh 10 [.ref ak, .ref t, .ref yt, .ref xt, .int isk, .ref ltp, .ref lrw, .int (nI rc), .ref lac, .ref lsh, .ref lhh, .ref lhg, .ref lhr], cob t 8 [.ref ak, .ref tl, .ref tf, .ref ta, .ref tk, .ref tg, .ref tp, .ref tm, .int (nI cnt), .int (nI stp), .int z], cin g tl 4 laws, cin g tf 6 fogs, cin g ta 6 arms, cin g tk 8 kinds, cin g tg 8 faiths, cin g tp 8 places, cin g tm 8 moved, cob xt 8 [.ref ak, .ref xtl, .ref xtf, .ref xta, .ref xtk, .ref xtg, .ref xtp, .ref xtm, .int (nI xcnt), .int (nI xstp), .int xz], cin g xtl 4 xlaws, cin g xtf 6 xfogs, cin g xta 6 xarms, cin g xtk 8 xkinds, cin g xtg 8 xfaiths, cin g xtp 8 xplaces, cin g xtm 8 xmoved, ckd g ak 6 (kdf k0 k1 k2 k3 k4 k5), cob k0 4 [], cob k1 2 [], cob k2 5 [], cob k3 6 [], cob k4 9 [], cob k5 1 [], cin g lrw 30 rows]) rfl (fun H locs hw => ?_)
    refine lv_if_eq (tgt := 23) hx hb dX10_prove_18 (by decide) (fun c_2 => ?_) (fun c_2 => ?_)
    · have hn := out_n1 (M := 1) (N := 10) (by decide) (by decide) c_2
      have hn2 := hn.2.1
      have hn3 := hn.2.2
      refine lv_aload_n hx hb dX10_prove_23 rfl (lv_at hl 0 rfl) ?_
      refine rg hf hk hw hinX10 0 rfl rfl 3 (by decide) w_1 rfl dX10_prove_24 ?_
      refine lv_aload_n hx hb dX10_prove_27 rfl (lv_at hl 0 rfl) ?_
      refine rg hf hk hw hinX10 0 rfl rfl 1 (by decide) w_0 rfl dX10_prove_28 ?_
      refine mcV hf hk hst hw (c_X8_copyFrom l g xt xtl xtf xta xtk xtg xtp xtm xlaws xfogs xarms xkinds xfaiths xplaces xmoved xcnt xstp xz t tl tf ta tk tg tp tm laws fogs arms kinds faiths places moved cnt stp z ak (by omega)) (cwV 1 hts gX10_prove_X8_copyFrom rfl rfl rfl hdV_X8_copyFrom ⟨Nat.le_of_ble_eq_true rfl, Nat.le_of_ble_eq_true rfl⟩) [9, 10, 11, 12, 13, 14, 15, 16, 1, 2, 3, 4, 5, 6, 7, 8] rfl rfl 9 rfl rfl rfl hl.1 rfl (Nat.le_of_ble_eq_true rfl) dX10_prove_31 ⟨Nat.zero_le _, Nat.zero_le _⟩ (W' := [cob lh 10 [.ref ak, .ref t, .ref yt, .ref xt, .int isk, .ref ltp, .ref lrw, .int (nI rc), .ref lac, .ref lsh, .ref lhh, .ref lhg, .ref lhr], cob t 8 [.ref ak, .ref tl, .ref tf, .ref ta, .ref tk, .ref tg, .ref tp, .ref tm, .int (nI cnt), .int (nI stp), .int z], cin g tl 4 laws, cin g tf 6 fogs, cin g ta 6 arms, cin g tk 8 kinds, cin g tg 8 faiths, cin g tp 8 places, cin g tm 8 moved, cob xt 8 [.ref ak, .ref xtl, .ref xtf, .ref xta, .ref xtk, .ref xtg, .ref xtp, .ref xtm, .int (nI cnt), .int (nI stp), .int z], cin g xtl 4 laws, cin g xtf 6 fogs, cin g xta 6 arms, cin g xtk 8 (cpT xkinds kinds cnt), cin g xtg 8 (cpT xfaiths faiths cnt), cin g xtp 8 (cpT xplaces places cnt), cin g xtm 8 (cpT xmoved moved cnt), ckd g ak 6 (kdf k0 k1 k2 k3 k4 k5), cob k0 4 [], cob k1 2 [], cob k2 5 [], cob k3 6 [], cob k4 9 [], cob k5 1 [], cin g lrw 30 rows]) rfl (fun H locs hw => ?_)
      obtain ⟨ck, eck⟩ : ∃ x : Nat → Int32, x = cpT xkinds kinds cnt := ⟨_, rfl⟩
      rw [← eck] at hw
      obtain ⟨cf, ecf⟩ : ∃ x : Nat → Int32, x = cpT xfaiths faiths cnt := ⟨_, rfl⟩
      rw [← ecf] at hw
      obtain ⟨cp, ecp⟩ : ∃ x : Nat → Int32, x = cpT xplaces places cnt := ⟨_, rfl⟩
      rw [← ecp] at hw
      obtain ⟨cm, ecm⟩ : ∃ x : Nat → Int32, x = cpT xmoved moved cnt := ⟨_, rfl⟩
      rw [← ecm] at hw
      have hck := cp_k eck
      have hcf := cp_k ecf
      have hcp := cp_k ecp
      have hcm := cp_k ecm
      refine lv_iconst (v := 0) hx hb dX10_prove_34 (by decide) ?_
      refine lv_istore_n (lv' := [(3, .int 0), (0, .ref lh), (1, .int goer), (2, .int n)]) hx hb dX10_prove_35 rfl hl (by decide) rfl (fun ls hl => ?_)
      have lp_36_2 : ∀ (fu k : Nat) (rw : Nat → Int32), k ≤ (ix n) → (ix n) + 1 ≤ k + fu → (rw = cpT rows (rowRV laws fogs arms kinds cnt stp faiths places moved (ix goer)) (3 * k)) → ∀ (H : Heap) (locs : List Loc), hv g (va_I [cob lh 10 [.ref ak, .ref t, .ref yt, .ref xt, .int isk, .ref ltp, .ref lrw, .int (nI rc), .ref lac, .ref lsh, .ref lhh, .ref lhg, .ref lhr], cob t 8 [.ref ak, .ref tl, .ref tf, .ref ta, .ref tk, .ref tg, .ref tp, .ref tm, .int (nI cnt), .int (nI stp), .int z], cin g tl 4 laws, cin g tf 6 fogs, cin g ta 6 arms, cin g tk 8 kinds, cin g tg 8 faiths, cin g tp 8 places, cin g tm 8 moved, cob xt 8 [.ref ak, .ref xtl, .ref xtf, .ref xta, .ref xtk, .ref xtg, .ref xtp, .ref xtm, .int (nI xcnt), .int (nI xstp), .int xz], cin g xtl 4 xlaws, cin g xtf 6 xfogs, cin g xta 6 xarms, cin g xtk 8 xkinds, cin g xtg 8 xfaiths, cin g xtp 8 xplaces, cin g xtm 8 xmoved, ckd g ak 6 (kdf k0 k1 k2 k3 k4 k5), cob k0 4 [], cob k1 2 [], cob k2 5 [], cob k3 6 [], cob k4 9 [], cob k5 1 [], cin g lrw 30 rows]) s H locs [cob lh 10 [.ref ak, .ref t, .ref yt, .ref xt, .int isk, .ref ltp, .ref lrw, .int (nI rc), .ref lac, .ref lsh, .ref lhh, .ref lhg, .ref lhr], cob t 8 [.ref ak, .ref tl, .ref tf, .ref ta, .ref tk, .ref tg, .ref tp, .ref tm, .int (nI cnt), .int (nI stp), .int z], cin g tl 4 laws, cin g tf 6 fogs, cin g ta 6 arms, cin g tk 8 kinds, cin g tg 8 faiths, cin g tp 8 places, cin g tm 8 moved, cob xt 8 [.ref ak, .ref xtl, .ref xtf, .ref xta, .ref xtk, .ref xtg, .ref xtp, .ref xtm, .int (nI cnt), .int (nI (stp + k)), .int z], cin g xtl 4 laws, cin g xtf 6 fogs, cin g xta 6 arms, cin g xtk 8 ck, cin g xtg 8 ((stA laws fogs arms ck cnt stp cf cp cm k).1), cin g xtp 8 ((stA laws fogs arms ck cnt stp cf cp cm k).2.1), cin g xtm 8 ((stA laws fogs arms ck cnt stp cf cp cm k).2.2), ckd g ak 6 (kdf k0 k1 k2 k3 k4 k5), cob k0 4 [], cob k1 2 [], cob k2 5 [], cob k3 6 [], cob k4 9 [], cob k5 1 [], cin g lrw 30 rw] → ∀ ls : Array Slot, lv_has ls 5 [(3, .int (nI k)), (0, .ref lh), (1, .int goer), (2, .int n)] → W p l e rmX10_prove s m ([.ref lh, .int goer, .int n] : List Value).toArray below meth c H locs 0 0 (MQ below (mtS g [cob lh 10 [.ref ak, .ref t, .ref yt, .ref xt, .int isk, .ref ltp, .ref lrw, .int (nI rc), .ref lac, .ref lsh, .ref lhh, .ref lhg, .ref lhr], cob t 8 [.ref ak, .ref tl, .ref tf, .ref ta, .ref tk, .ref tg, .ref tp, .ref tm, .int (nI cnt), .int (nI stp), .int z], cin g tl 4 laws, cin g tf 6 fogs, cin g ta 6 arms, cin g tk 8 kinds, cin g tg 8 faiths, cin g tp 8 places, cin g tm 8 moved, cob xt 8 [.ref ak, .ref xtl, .ref xtf, .ref xta, .ref xtk, .ref xtg, .ref xtp, .ref xtm, .int (nI xcnt), .int (nI xstp), .int xz], cin g xtl 4 xlaws, cin g xtf 6 xfogs, cin g xta 6 xarms, cin g xtk 8 xkinds, cin g xtg 8 xfaiths, cin g xtp 8 xplaces, cin g xtm 8 xmoved, ckd g ak 6 (kdf k0 k1 k2 k3 k4 k5), cob k0 4 [], cob k1 2 [], cob k2 5 [], cob k3 6 [], cob k4 9 [], cob k5 1 [], cin g lrw 30 rows] (fun rv W => rv = (some (.int (if f_X8_has cnt goer = 0 then -1 else if f_X10_isOutside n 1 10 = 0 then nI (ix n) else -1))) ∧ ∃ (j0 : Nat) (j1 : Nat) (j2 : Int32) (j3 : Nat → Int32) (j4 : Nat → Int32) (j5 : Nat → Int32) (j6 : Nat → Int32) (j7 : Nat → Int32) (j8 : Nat → Int32) (j9 : Nat → Int32), W = [cob lh 10 [.ref ak, .ref t, .ref yt, .ref xt, .int isk, .ref ltp, .ref lrw, .int (if f_X8_has cnt goer = 0 then nI rc else if f_X10_isOutside n 1 10 = 0 then nI (ix n) else nI rc), .ref lac, .ref lsh, .ref lhh, .ref lhg, .ref lhr], cob t 8 [.ref ak, .ref tl, .ref tf, .ref ta, .ref tk, .ref tg, .ref tp, .ref tm, .int (nI cnt), .int (nI stp), .int z], cin g tl 4 laws, cin g tf 6 fogs, cin g ta 6 arms, cin g tk 8 kinds, cin g tg 8 faiths, cin g tp 8 places, cin g tm 8 moved, cob xt 8 [.ref ak, .ref xtl, .ref xtf, .ref xta, .ref xtk, .ref xtg, .ref xtp, .ref xtm, .int (nI j0), .int (nI j1), .int j2], cin g xtl 4 j3, cin g xtf 6 j4, cin g xta 6 j5, cin g xtk 8 j6, cin g xtg 8 j7, cin g xtp 8 j8, cin g xtm 8 j9, ckd g ak 6 (kdf k0 k1 k2 k3 k4 k5), cob k0 4 [], cob k1 2 [], cob k2 5 [], cob k3 6 [], cob k4 9 [], cob k5 1 [], cin g lrw 30 (if f_X8_has cnt goer = 0 then rows else if f_X10_isOutside n 1 10 = 0 then cpT rows (rowRV laws fogs arms kinds cnt stp faiths places moved (ix goer)) (3 * ix n) else rows)])) ([.ref lh, .int goer, .int n] : List Value).toArray s 0 0 (va_I [cob lh 10 [.ref ak, .ref t, .ref yt, .ref xt, .int isk, .ref ltp, .ref lrw, .int (nI rc), .ref lac, .ref lsh, .ref lhh, .ref lhg, .ref lhr], cob t 8 [.ref ak, .ref tl, .ref tf, .ref ta, .ref tk, .ref tg, .ref tp, .ref tm, .int (nI cnt), .int (nI stp), .int z], cin g tl 4 laws, cin g tf 6 fogs, cin g ta 6 arms, cin g tk 8 kinds, cin g tg 8 faiths, cin g tp 8 places, cin g tm 8 moved, cob xt 8 [.ref ak, .ref xtl, .ref xtf, .ref xta, .ref xtk, .ref xtg, .ref xtp, .ref xtm, .int (nI xcnt), .int (nI xstp), .int xz], cin g xtl 4 xlaws, cin g xtf 6 xfogs, cin g xta 6 xarms, cin g xtk 8 xkinds, cin g xtg 8 xfaiths, cin g xtp 8 xplaces, cin g xtm 8 xmoved, ckd g ak 6 (kdf k0 k1 k2 k3 k4 k5), cob k0 4 [], cob k1 2 [], cob k2 5 [], cob k3 6 [], cob k4 9 [], cob k5 1 [], cin g lrw 30 rows])) (F0 m 36 ls []) := by
        intro fu
        induction fu with
        | zero =>
          intro k rw h1 h2
          exact absurd h2 (by omega)
        | succ fu ih_36 =>
          intro k rw hk1_36 hk2_36 erw H locs hw ls hl
          refine lv_iload_n hx hb dX10_prove_36 rfl (lv_at hl 0 rfl) ?_
          refine lv_iload_n hx hb dX10_prove_37 rfl (lv_at hl 3 rfl) ?_
          refine lv_tope (y := nI (ix n)) hn.1 ?_
          refine lv_icmp_ge (tgt := 90) hx hb dX10_prove_38 (by decide) (fun c_4 => ?_) (fun c_4 => ?_)
          · have hkE : k = ix n := Nat.le_antisymm hk1_36 ((nI_leI (by omega) (by omega)).mp c_4)
            refine lv_aload_n hx hb dX10_prove_90 rfl (lv_at hl 1 rfl) ?_
            refine lv_iload_n hx hb dX10_prove_91 rfl (lv_at hl 3 rfl) ?_
            refine lv_tope (y := nI (ix n)) hn.1 ?_
            refine rp hf hk hw hinX10 tyX10 tyX10_ok nmX10 0 rfl rfl 7 (by decide) w_2 rfl (rfl) rfl (Nat.le_of_ble_eq_true rfl) dX10_prove_92 (W' := [cob lh 10 [.ref ak, .ref t, .ref yt, .ref xt, .int isk, .ref ltp, .ref lrw, .int (nI (ix n)), .ref lac, .ref lsh, .ref lhh, .ref lhg, .ref lhr], cob t 8 [.ref ak, .ref tl, .ref tf, .ref ta, .ref tk, .ref tg, .ref tp, .ref tm, .int (nI cnt), .int (nI stp), .int z], cin g tl 4 laws, cin g tf 6 fogs, cin g ta 6 arms, cin g tk 8 kinds, cin g tg 8 faiths, cin g tp 8 places, cin g tm 8 moved, cob xt 8 [.ref ak, .ref xtl, .ref xtf, .ref xta, .ref xtk, .ref xtg, .ref xtp, .ref xtm, .int (nI cnt), .int (nI (stp + k)), .int z], cin g xtl 4 laws, cin g xtf 6 fogs, cin g xta 6 arms, cin g xtk 8 ck, cin g xtg 8 ((stA laws fogs arms ck cnt stp cf cp cm k).1), cin g xtp 8 ((stA laws fogs arms ck cnt stp cf cp cm k).2.1), cin g xtm 8 ((stA laws fogs arms ck cnt stp cf cp cm k).2.2), ckd g ak 6 (kdf k0 k1 k2 k3 k4 k5), cob k0 4 [], cob k1 2 [], cob k2 5 [], cob k3 6 [], cob k4 9 [], cob k5 1 [], cin g lrw 30 rw]) rfl (fun H locs hw => ?_)
            refine lv_iload_n hx hb dX10_prove_95 rfl (lv_at hl 3 rfl) ?_
            refine lv_tope (y := nI (ix n)) hn.1 ?_
            rw [hkE, show 3 * ix n = 3 * ix n from rfl] at erw
            exact rE_i hf hr hlk hw ⟨congrArg some (by simp only [if_neg c_1, if_pos c_2]), cnt, (stp + k), z, laws, fogs, arms, ck, ((stA laws fogs arms ck cnt stp cf cp cm k).1), ((stA laws fogs arms ck cnt stp cf cp cm k).2.1), ((stA laws fogs arms ck cnt stp cf cp cm k).2.2), by simp only [if_neg c_1, if_pos c_2, erw]⟩ (show ([lh, t, tl, tf, ta, tk, tg, tp, tm, xt, xtl, xtf, xta, xtk, xtg, xtp, xtm, ak, k0, k1, k2, k3, k4, k5, lrw] : List Nat) = [lh, t, tl, tf, ta, tk, tg, tp, tm, xt, xtl, xtf, xta, xtk, xtg, xtp, xtm, ak, k0, k1, k2, k3, k4, k5, lrw] from rfl) dX10_prove_96
          · have hkE : k < ix n := Nat.not_le.mp (fun h => c_4 ((nI_leI (by omega) (by omega)).mpr h))
            refine lv_aload_n hx hb dX10_prove_41 rfl (lv_at hl 1 rfl) ?_
            refine rg hf hk hw hinX10 0 rfl rfl 3 (by decide) w_1 rfl dX10_prove_42 ?_
            refine mcV hf hk hst hw (c_X8_goStep l g xt xtl xtf xta xtk xtg xtp xtm laws fogs arms ck ((stA laws fogs arms ck cnt stp cf cp cm k).1) ((stA laws fogs arms ck cnt stp cf cp cm k).2.1) ((stA laws fogs arms ck cnt stp cf cp cm k).2.2) cnt (stp + k) z ak k0 k1 k2 k3 k4 k5 (by omega) (by omega) (fun j hj => by rw [hck j hj]; exact hkd j hj)) (cwV 0 hts gX10_prove_X8_goStep rfl rfl rfl hdV_X8_goStep ⟨Nat.le_of_ble_eq_true rfl, Nat.le_of_ble_eq_true rfl⟩) [9, 10, 11, 12, 13, 14, 15, 16, 17, 18, 19, 20, 21, 22, 23] rfl rfl 9 rfl rfl rfl hl.1 rfl (Nat.le_of_ble_eq_true rfl) dX10_prove_45 ⟨Nat.zero_le _, Nat.zero_le _⟩ (W' := [cob lh 10 [.ref ak, .ref t, .ref yt, .ref xt, .int isk, .ref ltp, .ref lrw, .int (nI rc), .ref lac, .ref lsh, .ref lhh, .ref lhg, .ref lhr], cob t 8 [.ref ak, .ref tl, .ref tf, .ref ta, .ref tk, .ref tg, .ref tp, .ref tm, .int (nI cnt), .int (nI stp), .int z], cin g tl 4 laws, cin g tf 6 fogs, cin g ta 6 arms, cin g tk 8 kinds, cin g tg 8 faiths, cin g tp 8 places, cin g tm 8 moved, cob xt 8 [.ref ak, .ref xtl, .ref xtf, .ref xta, .ref xtk, .ref xtg, .ref xtp, .ref xtm, .int (nI cnt), .int (nI ((stp + k) + 1)), .int z], cin g xtl 4 laws, cin g xtf 6 fogs, cin g xta 6 arms, cin g xtk 8 ck, cin g xtg 8 (goF laws fogs arms (stp + k) ck ((stA laws fogs arms ck cnt stp cf cp cm k).1) ((stA laws fogs arms ck cnt stp cf cp cm k).2.1) cnt), cin g xtp 8 (goP laws fogs arms (stp + k) ck ((stA laws fogs arms ck cnt stp cf cp cm k).1) ((stA laws fogs arms ck cnt stp cf cp cm k).2.1) cnt), cin g xtm 8 (goM laws fogs arms (stp + k) ck ((stA laws fogs arms ck cnt stp cf cp cm k).2.1) ((stA laws fogs arms ck cnt stp cf cp cm k).2.2) cnt), ckd g ak 6 (kdf k0 k1 k2 k3 k4 k5), cob k0 4 [], cob k1 2 [], cob k2 5 [], cob k3 6 [], cob k4 9 [], cob k5 1 [], cin g lrw 30 rw]) rfl (fun H locs hw => ?_)
            refine lv_iconst (v := 0) hx hb dX10_prove_48 (by decide) ?_
            refine lv_istore (lv' := [(4, .int 0), (3, .int (nI k)), (0, .ref lh), (1, .int goer), (2, .int n)]) hx hb dX10_prove_49 hl (by decide) rfl (fun ls hl => ?_)
            have lp_51_4 : ∀ (fu pp : Nat) (rp_ : Nat → Int32), pp ≤ 3 → 3 + 1 ≤ pp + fu → (rp_ = cpT rows (rowRV laws fogs arms kinds cnt stp faiths places moved (ix goer)) (3 * k + pp)) → ∀ (H : Heap) (locs : List Loc), hv g (va_I [cob lh 10 [.ref ak, .ref t, .ref yt, .ref xt, .int isk, .ref ltp, .ref lrw, .int (nI rc), .ref lac, .ref lsh, .ref lhh, .ref lhg, .ref lhr], cob t 8 [.ref ak, .ref tl, .ref tf, .ref ta, .ref tk, .ref tg, .ref tp, .ref tm, .int (nI cnt), .int (nI stp), .int z], cin g tl 4 laws, cin g tf 6 fogs, cin g ta 6 arms, cin g tk 8 kinds, cin g tg 8 faiths, cin g tp 8 places, cin g tm 8 moved, cob xt 8 [.ref ak, .ref xtl, .ref xtf, .ref xta, .ref xtk, .ref xtg, .ref xtp, .ref xtm, .int (nI xcnt), .int (nI xstp), .int xz], cin g xtl 4 xlaws, cin g xtf 6 xfogs, cin g xta 6 xarms, cin g xtk 8 xkinds, cin g xtg 8 xfaiths, cin g xtp 8 xplaces, cin g xtm 8 xmoved, ckd g ak 6 (kdf k0 k1 k2 k3 k4 k5), cob k0 4 [], cob k1 2 [], cob k2 5 [], cob k3 6 [], cob k4 9 [], cob k5 1 [], cin g lrw 30 rows]) s H locs [cob lh 10 [.ref ak, .ref t, .ref yt, .ref xt, .int isk, .ref ltp, .ref lrw, .int (nI rc), .ref lac, .ref lsh, .ref lhh, .ref lhg, .ref lhr], cob t 8 [.ref ak, .ref tl, .ref tf, .ref ta, .ref tk, .ref tg, .ref tp, .ref tm, .int (nI cnt), .int (nI stp), .int z], cin g tl 4 laws, cin g tf 6 fogs, cin g ta 6 arms, cin g tk 8 kinds, cin g tg 8 faiths, cin g tp 8 places, cin g tm 8 moved, cob xt 8 [.ref ak, .ref xtl, .ref xtf, .ref xta, .ref xtk, .ref xtg, .ref xtp, .ref xtm, .int (nI cnt), .int (nI ((stp + k) + 1)), .int z], cin g xtl 4 laws, cin g xtf 6 fogs, cin g xta 6 arms, cin g xtk 8 ck, cin g xtg 8 (goF laws fogs arms (stp + k) ck ((stA laws fogs arms ck cnt stp cf cp cm k).1) ((stA laws fogs arms ck cnt stp cf cp cm k).2.1) cnt), cin g xtp 8 (goP laws fogs arms (stp + k) ck ((stA laws fogs arms ck cnt stp cf cp cm k).1) ((stA laws fogs arms ck cnt stp cf cp cm k).2.1) cnt), cin g xtm 8 (goM laws fogs arms (stp + k) ck ((stA laws fogs arms ck cnt stp cf cp cm k).2.1) ((stA laws fogs arms ck cnt stp cf cp cm k).2.2) cnt), ckd g ak 6 (kdf k0 k1 k2 k3 k4 k5), cob k0 4 [], cob k1 2 [], cob k2 5 [], cob k3 6 [], cob k4 9 [], cob k5 1 [], cin g lrw 30 rp_] → ∀ ls : Array Slot, lv_has ls 5 [(4, .int (nI pp)), (3, .int (nI k)), (0, .ref lh), (1, .int goer), (2, .int n)] → W p l e rmX10_prove s m ([.ref lh, .int goer, .int n] : List Value).toArray below meth c H locs 0 0 (MQ below (mtS g [cob lh 10 [.ref ak, .ref t, .ref yt, .ref xt, .int isk, .ref ltp, .ref lrw, .int (nI rc), .ref lac, .ref lsh, .ref lhh, .ref lhg, .ref lhr], cob t 8 [.ref ak, .ref tl, .ref tf, .ref ta, .ref tk, .ref tg, .ref tp, .ref tm, .int (nI cnt), .int (nI stp), .int z], cin g tl 4 laws, cin g tf 6 fogs, cin g ta 6 arms, cin g tk 8 kinds, cin g tg 8 faiths, cin g tp 8 places, cin g tm 8 moved, cob xt 8 [.ref ak, .ref xtl, .ref xtf, .ref xta, .ref xtk, .ref xtg, .ref xtp, .ref xtm, .int (nI xcnt), .int (nI xstp), .int xz], cin g xtl 4 xlaws, cin g xtf 6 xfogs, cin g xta 6 xarms, cin g xtk 8 xkinds, cin g xtg 8 xfaiths, cin g xtp 8 xplaces, cin g xtm 8 xmoved, ckd g ak 6 (kdf k0 k1 k2 k3 k4 k5), cob k0 4 [], cob k1 2 [], cob k2 5 [], cob k3 6 [], cob k4 9 [], cob k5 1 [], cin g lrw 30 rows] (fun rv W => rv = (some (.int (if f_X8_has cnt goer = 0 then -1 else if f_X10_isOutside n 1 10 = 0 then nI (ix n) else -1))) ∧ ∃ (j0 : Nat) (j1 : Nat) (j2 : Int32) (j3 : Nat → Int32) (j4 : Nat → Int32) (j5 : Nat → Int32) (j6 : Nat → Int32) (j7 : Nat → Int32) (j8 : Nat → Int32) (j9 : Nat → Int32), W = [cob lh 10 [.ref ak, .ref t, .ref yt, .ref xt, .int isk, .ref ltp, .ref lrw, .int (if f_X8_has cnt goer = 0 then nI rc else if f_X10_isOutside n 1 10 = 0 then nI (ix n) else nI rc), .ref lac, .ref lsh, .ref lhh, .ref lhg, .ref lhr], cob t 8 [.ref ak, .ref tl, .ref tf, .ref ta, .ref tk, .ref tg, .ref tp, .ref tm, .int (nI cnt), .int (nI stp), .int z], cin g tl 4 laws, cin g tf 6 fogs, cin g ta 6 arms, cin g tk 8 kinds, cin g tg 8 faiths, cin g tp 8 places, cin g tm 8 moved, cob xt 8 [.ref ak, .ref xtl, .ref xtf, .ref xta, .ref xtk, .ref xtg, .ref xtp, .ref xtm, .int (nI j0), .int (nI j1), .int j2], cin g xtl 4 j3, cin g xtf 6 j4, cin g xta 6 j5, cin g xtk 8 j6, cin g xtg 8 j7, cin g xtp 8 j8, cin g xtm 8 j9, ckd g ak 6 (kdf k0 k1 k2 k3 k4 k5), cob k0 4 [], cob k1 2 [], cob k2 5 [], cob k3 6 [], cob k4 9 [], cob k5 1 [], cin g lrw 30 (if f_X8_has cnt goer = 0 then rows else if f_X10_isOutside n 1 10 = 0 then cpT rows (rowRV laws fogs arms kinds cnt stp faiths places moved (ix goer)) (3 * ix n) else rows)])) ([.ref lh, .int goer, .int n] : List Value).toArray s 0 0 (va_I [cob lh 10 [.ref ak, .ref t, .ref yt, .ref xt, .int isk, .ref ltp, .ref lrw, .int (nI rc), .ref lac, .ref lsh, .ref lhh, .ref lhg, .ref lhr], cob t 8 [.ref ak, .ref tl, .ref tf, .ref ta, .ref tk, .ref tg, .ref tp, .ref tm, .int (nI cnt), .int (nI stp), .int z], cin g tl 4 laws, cin g tf 6 fogs, cin g ta 6 arms, cin g tk 8 kinds, cin g tg 8 faiths, cin g tp 8 places, cin g tm 8 moved, cob xt 8 [.ref ak, .ref xtl, .ref xtf, .ref xta, .ref xtk, .ref xtg, .ref xtp, .ref xtm, .int (nI xcnt), .int (nI xstp), .int xz], cin g xtl 4 xlaws, cin g xtf 6 xfogs, cin g xta 6 xarms, cin g xtk 8 xkinds, cin g xtg 8 xfaiths, cin g xtp 8 xplaces, cin g xtm 8 xmoved, ckd g ak 6 (kdf k0 k1 k2 k3 k4 k5), cob k0 4 [], cob k1 2 [], cob k2 5 [], cob k3 6 [], cob k4 9 [], cob k5 1 [], cin g lrw 30 rows])) (F0 m 51 ls []) := by
              intro fu
              induction fu with
              | zero =>
                intro pp rp_ h1 h2
                exact absurd h2 (by omega)
              | succ fu ih_51 =>
                intro pp rp_ hk1_51 hk2_51 erp H locs hw ls hl
                refine lv_iload hx hb dX10_prove_51 (lv_at hl 0 rfl) ?_
                refine lv_iconst (v := 3) hx hb dX10_prove_53 (by decide) ?_
                refine lv_icmp_ge (tgt := 84) hx hb dX10_prove_54 (by decide) (fun c_6 => ?_) (fun c_6 => ?_)
                · have hpE : pp = 3 := Nat.le_antisymm hk1_51 ((nI_leI (a := 3) (by omega) (by omega)).mp c_6)
                  refine lv_iinc (v := nI (k + 1)) (lv' := [(3, .int (nI (k + 1))), (4, .int (nI pp)), (0, .ref lh), (1, .int goer), (2, .int n)]) hx hb dX10_prove_84 hl (k := 1) rfl (nI_1 _) (by decide) rfl (fun ls hl => ?_)
                  refine lv_goto (tgt := 36) hx hb dX10_prove_87 (by decide) ?_
                  have e_1 : nI ((stp + k) + 1) = nI (stp + (k + 1)) := rfl
                  rw [e_1] at hw
                  have e_2 : goF laws fogs arms (stp + k) ck ((stA laws fogs arms ck cnt stp cf cp cm k).1) ((stA laws fogs arms ck cnt stp cf cp cm k).2.1) cnt = (stA laws fogs arms ck cnt stp cf cp cm (k + 1)).1 := rfl
                  rw [e_2] at hw
                  have e_3 : goP laws fogs arms (stp + k) ck ((stA laws fogs arms ck cnt stp cf cp cm k).1) ((stA laws fogs arms ck cnt stp cf cp cm k).2.1) cnt = (stA laws fogs arms ck cnt stp cf cp cm (k + 1)).2.1 := rfl
                  rw [e_3] at hw
                  have e_4 : goM laws fogs arms (stp + k) ck ((stA laws fogs arms ck cnt stp cf cp cm k).2.1) ((stA laws fogs arms ck cnt stp cf cp cm k).2.2) cnt = (stA laws fogs arms ck cnt stp cf cp cm (k + 1)).2.2 := rfl
                  rw [e_4] at hw
                  exact ih_36 (k + 1) rp_ (by omega) (by omega) (by rw [erp, hpE, show 3 * (k + 1) = 3 * k + 3 by omega]) _ _ hw _ (lv_sub hl [0, 2, 3, 4] rfl)
                · have hpE : pp < 3 := Nat.not_le.mp (fun h => c_6 ((nI_leI (a := 3) (by omega) (by omega)).mpr h))
                  refine lv_aload_n hx hb dX10_prove_57 rfl (lv_at hl 2 rfl) ?_
                  refine rg hf hk hw hinX10 0 rfl rfl 6 (by decide) w_3 rfl dX10_prove_58 ?_
                  refine lv_iload_n hx hb dX10_prove_61 rfl (lv_at hl 1 rfl) ?_
                  refine lv_iconst (v := 3) hx hb dX10_prove_62 (by decide) ?_
                  refine lv_imul hx hb dX10_prove_63 ?_
                  refine lv_tope (y := nI (3 * k)) (by rw [show 3 * k = k * 3 by omega]; exact pk_mul _ 3) ?_
                  refine lv_iload hx hb dX10_prove_64 (lv_at hl 0 rfl) ?_
                  refine lv_iadd hx hb dX10_prove_66 ?_
                  refine lv_tope (y := nI (3 * k + pp)) (nI_add _ _) ?_
                  refine lv_aload_n hx hb dX10_prove_67 rfl (lv_at hl 2 rfl) ?_
                  refine rg hf hk hw hinX10 0 rfl rfl 3 (by decide) w_1 rfl dX10_prove_68 ?_
                  refine lv_iload_n hx hb dX10_prove_71 rfl (lv_at hl 3 rfl) ?_
                  refine lv_tope (y := nI (ix goer)) hg.1 ?_
                  refine lv_iload hx hb dX10_prove_72 (lv_at hl 0 rfl) ?_
                  refine mcV hf hk hst hw (c_X8_partOfRow l g xt xtl xtf xta xtk xtg xtp xtm (goF laws fogs arms (stp + k) ck ((stA laws fogs arms ck cnt stp cf cp cm k).1) ((stA laws fogs arms ck cnt stp cf cp cm k).2.1) cnt) (goP laws fogs arms (stp + k) ck ((stA laws fogs arms ck cnt stp cf cp cm k).1) ((stA laws fogs arms ck cnt stp cf cp cm k).2.1) cnt) cnt ((stp + k) + 1) z ak (ix goer) (nI pp) (by omega) (by omega)) (cwV 2 hts gX10_prove_X8_partOfRow rfl rfl rfl hdV_X8_partOfRow ⟨Nat.le_of_ble_eq_true rfl, Nat.le_of_ble_eq_true rfl⟩) [9, 14, 15] rfl rfl 9 rfl rfl rfl hl.1 rfl (Nat.le_of_ble_eq_true rfl) dX10_prove_74 ⟨Nat.zero_le _, Nat.zero_le _⟩ (W' := [cob lh 10 [.ref ak, .ref t, .ref yt, .ref xt, .int isk, .ref ltp, .ref lrw, .int (nI rc), .ref lac, .ref lsh, .ref lhh, .ref lhg, .ref lhr], cob t 8 [.ref ak, .ref tl, .ref tf, .ref ta, .ref tk, .ref tg, .ref tp, .ref tm, .int (nI cnt), .int (nI stp), .int z], cin g tl 4 laws, cin g tf 6 fogs, cin g ta 6 arms, cin g tk 8 kinds, cin g tg 8 faiths, cin g tp 8 places, cin g tm 8 moved, cob xt 8 [.ref ak, .ref xtl, .ref xtf, .ref xta, .ref xtk, .ref xtg, .ref xtp, .ref xtm, .int (nI cnt), .int (nI ((stp + k) + 1)), .int z], cin g xtl 4 laws, cin g xtf 6 fogs, cin g xta 6 arms, cin g xtk 8 ck, cin g xtg 8 (goF laws fogs arms (stp + k) ck ((stA laws fogs arms ck cnt stp cf cp cm k).1) ((stA laws fogs arms ck cnt stp cf cp cm k).2.1) cnt), cin g xtp 8 (goP laws fogs arms (stp + k) ck ((stA laws fogs arms ck cnt stp cf cp cm k).1) ((stA laws fogs arms ck cnt stp cf cp cm k).2.1) cnt), cin g xtm 8 (goM laws fogs arms (stp + k) ck ((stA laws fogs arms ck cnt stp cf cp cm k).2.1) ((stA laws fogs arms ck cnt stp cf cp cm k).2.2) cnt), ckd g ak 6 (kdf k0 k1 k2 k3 k4 k5), cob k0 4 [], cob k1 2 [], cob k2 5 [], cob k3 6 [], cob k4 9 [], cob k5 1 [], cin g lrw 30 rp_]) rfl (fun H locs hw => ?_)
                  refine lv_tope (y := (rowRV laws fogs arms kinds cnt stp faiths places moved (ix goer)) (3 * k + pp)) (rowRV_c hck hcf hcp hcm hg2 k pp hpE) ?_
                  refine rsj hf hk hw 24 rfl (j := 3 * k + pp) (vp_in_nI (by omega) (by omega)) (nI_clamp (by omega)) dX10_prove_77 (W' := [cob lh 10 [.ref ak, .ref t, .ref yt, .ref xt, .int isk, .ref ltp, .ref lrw, .int (nI rc), .ref lac, .ref lsh, .ref lhh, .ref lhg, .ref lhr], cob t 8 [.ref ak, .ref tl, .ref tf, .ref ta, .ref tk, .ref tg, .ref tp, .ref tm, .int (nI cnt), .int (nI stp), .int z], cin g tl 4 laws, cin g tf 6 fogs, cin g ta 6 arms, cin g tk 8 kinds, cin g tg 8 faiths, cin g tp 8 places, cin g tm 8 moved, cob xt 8 [.ref ak, .ref xtl, .ref xtf, .ref xta, .ref xtk, .ref xtg, .ref xtp, .ref xtm, .int (nI cnt), .int (nI ((stp + k) + 1)), .int z], cin g xtl 4 laws, cin g xtf 6 fogs, cin g xta 6 arms, cin g xtk 8 ck, cin g xtg 8 (goF laws fogs arms (stp + k) ck ((stA laws fogs arms ck cnt stp cf cp cm k).1) ((stA laws fogs arms ck cnt stp cf cp cm k).2.1) cnt), cin g xtp 8 (goP laws fogs arms (stp + k) ck ((stA laws fogs arms ck cnt stp cf cp cm k).1) ((stA laws fogs arms ck cnt stp cf cp cm k).2.1) cnt), cin g xtm 8 (goM laws fogs arms (stp + k) ck ((stA laws fogs arms ck cnt stp cf cp cm k).2.1) ((stA laws fogs arms ck cnt stp cf cp cm k).2.2) cnt), ckd g ak 6 (kdf k0 k1 k2 k3 k4 k5), cob k0 4 [], cob k1 2 [], cob k2 5 [], cob k3 6 [], cob k4 9 [], cob k5 1 [], cin g lrw 30 (upd rp_ (3 * k + pp) ((rowRV laws fogs arms kinds cnt stp faiths places moved (ix goer)) (3 * k + pp)))]) rfl (fun H locs hw => ?_)
                  refine lv_iinc (v := nI (pp + 1)) (lv' := [(4, .int (nI (pp + 1))), (3, .int (nI k)), (0, .ref lh), (1, .int goer), (2, .int n)]) hx hb dX10_prove_78 hl (k := 0) rfl (nI_1 _) (by decide) rfl (fun ls hl => ?_)
                  refine lv_goto (tgt := 51) hx hb dX10_prove_81 (by decide) ?_
                  exact ih_51 (pp + 1) (upd rp_ (3 * k + pp) ((rowRV laws fogs arms kinds cnt stp faiths places moved (ix goer)) (3 * k + pp))) (by omega) (by omega) (cpT_s erp) _ _ hw _ (lv_sub hl [0, 1, 2, 3, 4] rfl)
            exact lp_51_4 (3 + 1) 0 rw (by omega) (by omega) (erw) _ _ hw _ (lv_sub hl [0, 1, 2, 3, 4] rfl)
      exact lp_36_2 ((ix n) + 1) 0 rows (by omega) (by omega) (cpT_0 _ _) _ _ hw _ (lv_sub hl [0, 1, 2, 3] rfl)
    · refine lv_iconst (v := (-1)) hx hb dX10_prove_21 (by decide) ?_
      exact rE_i hf hr hlk hw ⟨congrArg some (by simp only [if_neg c_1, if_neg c_2]), xcnt, xstp, xz, xlaws, xfogs, xarms, xkinds, xfaiths, xplaces, xmoved, by simp only [if_neg c_1, if_neg c_2]⟩ (show ([lh, t, tl, tf, ta, tk, tg, tp, tm, xt, xtl, xtf, xta, xtk, xtg, xtp, xtm, ak, k0, k1, k2, k3, k4, k5, lrw] : List Nat) = [lh, t, tl, tf, ta, tk, tg, tp, tm, xt, xtl, xtf, xta, xtk, xtg, xtp, xtm, ak, k0, k1, k2, k3, k4, k5, lrw] from rfl) dX10_prove_22
