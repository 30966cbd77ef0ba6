def f_X10_set (laws : Nat → Int32) (law : Int32) (v : Int32) : Int32 := if (f_X10_isOutside law 0 3) = 0 then (if (f_X10_isOutside v 0 (tq_most (ix law))) = 0 then (laws (ix law)) else (-1)) else (-1)
def f_X10_set_w1 (laws : Nat → Int32) (law : Int32) (v : Int32) : Nat → Int32 := if (f_X10_isOutside law 0 3) = 0 then (if (f_X10_isOutside v 0 (tq_most (ix law))) = 0 then (upd laws (ix law) v) else laws) else laws
abbrev rmX10_set : Room := { frames := 1, cells := 0, slots := 0, locals := 22 }
set_option maxHeartbeats 4000000 in
set_option maxRecDepth 100000 in
theorem c_X10_set (l : Launch) (g : GG) (lh : Nat) (t : Nat) (tl : Nat) (tf : Nat) (ta : Nat) (tk : Nat) (tg : Nat) (tp : Nat) (tm : Nat) (laws : Nat → Int32) (cnt : Nat) (stp : Nat) (z : Int32) (xt : Nat) (yt : Nat) (ak : Nat) (isk : Int32) (ltp : Nat) (lrw : Nat) (rc : Nat) (lac : Nat) (lsh : Nat) (lhh : Nat) (lhg : Nat) (lhr : Nat) (law : Int32) (v : Int32) : mtR l g yX10_set wsX10_set rmX10_set [.ref lh, .int law, .int v] [cob lh 10 [.ref ak, .ref t, .ref yt, .ref xt, .int isk, .ref ltp, .ref lrw, .int (nI rc), .ref lac, .ref lsh, .ref lhh, .ref lhg, .ref lhr], cob t 8 [.ref ak, .ref tl, .ref tf, .ref ta, .ref tk, .ref tg, .ref tp, .ref tm, .int (nI cnt), .int (nI stp), .int z], cin g tl 4 laws] (fun rv W => rv = (some (.int (f_X10_set laws law v))) ∧ W = [cob lh 10 [.ref ak, .ref t, .ref yt, .ref xt, .int isk, .ref ltp, .ref lrw, .int (nI rc), .ref lac, .ref lsh, .ref lhh, .ref lhg, .ref lhr], cob t 8 [.ref ak, .ref tl, .ref tf, .ref ta, .ref tk, .ref tg, .ref tp, .ref tm, .int (nI cnt), .int (nI stp), .int z], cin g tl 4 (f_X10_set_w1 laws law v)]) := by
  refine mtR.of (cc := cX10_set) (nL := 4) (ret := (some .int)) (own := RX10) (by decide +kernel) rfl rfl (Nat.le_of_ble_eq_true rfl) (fun p e s m below meth c hf hr hlk _ hk hst hw ls hl => ?_)
  have hx := hf.1
  have hb := hf.2.1
  have hts := hf.2.2.2.2
  have hl : lv_has ls 4 [(0, .ref lh), (1, .int law), (2, .int v)] := hl
  have w_0 : Cond.fieldLink RX10 112 "LightMan" "MOST_OF_LAW" "[I" ∈ wsX10_set := List.mem_of_getElem? (i := 1) rfl
  have hinX10 : ∀ w ∈ u_ws RX10 TX10 13, w ∈ wsX10_set := fun w h => List.mem_cons_of_mem _ (List.mem_append_left _ (List.mem_append_right _ h))
  have w_1 : Cond.fieldLink RX10 36 "LightMan" "now" "LLightMan$Tunnel;" ∈ wsX10_set := List.mem_of_getElem? (i := 2) rfl
  have hinX8 : ∀ w ∈ u_ws RX8 TX8 11, w ∈ wsX10_set := fun w h => List.mem_cons_of_mem _ (List.mem_append_right _ h)
  have w_2 : Cond.fieldLink RX10 115 "LightMan$Tunnel" "laws" "[I" ∈ wsX10_set := List.mem_of_getElem? (i := 3) rfl
  refine lv_iload_n hx hb dX10_set_0 rfl (lv_at hl 1 rfl) ?_
  refine lv_iconst (v := 0) hx hb dX10_set_1 (by decide) ?_
  refine lv_iconst (v := 3) hx hb dX10_set_2 (by decide) ?_
  refine mcS hf hk hst hw (c_X10_isOutside l g law 0 3) (va_cwS 3 hts gX10_set_X10_isOutside rfl rfl rfl hdS_X10_isOutside ⟨Nat.le_of_ble_eq_true rfl, Nat.le_of_ble_eq_true rfl⟩) [] rfl rfl rfl hl.1 rfl (Nat.le_of_ble_eq_true rfl) dX10_set_3 ⟨Nat.zero_le _, Nat.zero_le _⟩ (W' := [cob lh 10 [.ref ak, .ref t, .ref yt, .ref xt, .int isk, .ref ltp, .ref lrw, .int (nI rc), .ref lac, .ref lsh, .ref lhh, .ref lhg, .ref lhr], cob t 8 [.ref ak, .ref tl, .ref tf, .ref ta, .ref tk, .ref tg, .ref tp, .ref tm, .int (nI cnt), .int (nI stp), .int z], cin g tl 4 laws]) rfl (fun H locs hw => ?_)
  refine lv_if_ne (tgt := 22) hx hb dX10_set_6 (by decide) (fun c_1 => ?_) (fun c_1 => ?_)
  · refine lv_iconst (v := (-1)) hx hb dX10_set_22 (by decide) ?_
    exact rE_i hf hr hlk hw ⟨congrArg some (by simp only [f_X10_set, if_neg c_1]), by simp only [f_X10_set_w1, if_neg c_1]⟩ (show ([lh, t, tl] : List Nat) = [lh, t, tl] from rfl) dX10_set_23
  · have hn := out_n (N := 3) (by decide) c_1
    have hn2 := hn.2
    refine lv_iload_n hx hb dX10_set_9 rfl (lv_at hl 2 rfl) ?_
    refine lv_iconst (v := 0) hx hb dX10_set_10 (by decide) ?_
    refine va_gets hx hb hst.1.1 hw.2.2 hf.2.2.2.1 (hts _ w_0) (fun _ h => h) dX10_set_11 ?_
    refine lv_iload_n hx hb dX10_set_14 rfl (lv_at hl 1 rfl) ?_
    refine lv_tope (y := nI (ix law)) hn.1 ?_
    refine va_ti hx hb hst.1.2 hw.2.2 (v := .int (tq_most (ix law))) (vp_in_nI (by omega) (by omega)) (congrArg (fun j => Value.int (tq_most j)) (nI_clamp (by omega))) dX10_set_15 ?_
    refine mcS hf hk hst hw (c_X10_isOutside l g v 0 (tq_most (ix law))) (va_cwS 3 hts gX10_set_X10_isOutside rfl rfl rfl hdS_X10_isOutside ⟨Nat.le_of_ble_eq_true rfl, Nat.le_of_ble_eq_true rfl⟩) [] rfl rfl rfl hl.1 rfl (Nat.le_of_ble_eq_true rfl) dX10_set_16 ⟨Nat.zero_le _, Nat.zero_le _⟩ (W' := [cob lh 10 [.ref ak, .ref t, .ref yt, .ref xt, .int isk, .ref ltp, .ref lrw, .int (nI rc), .ref lac, .ref lsh, .ref lhh, .ref lhg, .ref lhr], cob t 8 [.ref ak, .ref tl, .ref tf, .ref ta, .ref tk, .ref tg, .ref tp, .ref tm, .int (nI cnt), .int (nI stp), .int z], cin g tl 4 laws]) rfl (fun H locs hw => ?_)
    refine lv_if_eq (tgt := 24) hx hb dX10_set_19 (by decide) (fun c_2 => ?_) (fun c_2 => ?_)
    · refine lv_aload_n hx hb dX10_set_24 rfl (lv_at hl 0 rfl) ?_
      refine rg hf hk hw hinX10 0 rfl rfl 1 (by decide) w_1 rfl dX10_set_25 ?_
      refine rg hf hk hw hinX8 1 rfl rfl 1 (by decide) w_2 rfl dX10_set_28 ?_
      refine lv_iload_n hx hb dX10_set_31 rfl (lv_at hl 1 rfl) ?_
      refine lv_tope (y := nI (ix law)) hn.1 ?_
      refine rij hf hk hw 2 rfl (j := ix law) (vp_in_nI (by omega) (by omega)) (nI_clamp (by omega)) dX10_set_32 ?_
      refine lv_istore_n (lv' := [(3, .int (laws (ix law))), (0, .ref lh), (1, .int law), (2, .int v)]) hx hb dX10_set_33 rfl hl (by decide) rfl (fun ls hl => ?_)
      refine lv_aload_n hx hb dX10_set_34 rfl (lv_at hl 1 rfl) ?_
      refine rg hf hk hw hinX10 0 rfl rfl 1 (by decide) w_1 rfl dX10_set_35 ?_
      refine rg hf hk hw hinX8 1 rfl rfl 1 (by decide) w_2 rfl dX10_set_38 ?_
      refine lv_iload_n hx hb dX10_set_41 rfl (lv_at hl 2 rfl) ?_
      refine lv_tope (y := nI (ix law)) hn.1 ?_
      refine lv_iload_n hx hb dX10_set_42 rfl (lv_at hl 3 rfl) ?_
      refine rsj hf hk hw 2 rfl (j := ix law) (vp_in_nI (by omega) (by omega)) (nI_clamp (by omega)) dX10_set_43 (W' := [cob lh 10 [.ref ak, .ref t, .ref yt, .ref xt, .int isk, .ref ltp, .ref lrw, .int (nI rc), .ref lac, .ref lsh, .ref lhh, .ref lhg, .ref lhr], cob t 8 [.ref ak, .ref tl, .ref tf, .ref ta, .ref tk, .ref tg, .ref tp, .ref tm, .int (nI cnt), .int (nI stp), .int z], cin g tl 4 (upd laws (ix law) v)]) rfl (fun H locs hw => ?_)
      refine lv_iload_n hx hb dX10_set_44 rfl (lv_at hl 0 rfl) ?_
      exact rE_i hf hr hlk hw ⟨congrArg some (by simp only [f_X10_set, if_pos c_1, if_pos c_2]), by simp only [f_X10_set_w1, if_pos c_1, if_pos c_2]⟩ (show ([lh, t, tl] : List Nat) = [lh, t, tl] from rfl) dX10_set_45
    · refine lv_iconst (v := (-1)) hx hb dX10_set_22 (by decide) ?_
      exact rE_i hf hr hlk hw ⟨congrArg some (by simp only [f_X10_set, if_pos c_1, if_neg c_2]), by simp only [f_X10_set_w1, if_pos c_1, if_neg c_2]⟩ (show ([lh, t, tl] : List Nat) = [lh, t, tl] from rfl) dX10_set_23
def f_X10_lawOf (laws : Nat → Int32) (law : Int32) : Int32 := if (f_X10_isOutside law 0 3) = 0 then (laws (ix law)) else (-1)
abbrev rmX10_lawOf : Room := { frames := 1, cells := 0, slots := 0, locals := 22 }
set_option maxHeartbeats 4000000 in
set_option maxRecDepth 100000 in
theorem c_X10_lawOf (l : Launch) (g : GG) (lh : Nat) (t : Nat) (tl : Nat) (tf : Nat) (ta : Nat) (tk : Nat) (tg : Nat) (tp : Nat) (tm : Nat) (laws : Nat → Int32) (cnt : Nat) (stp : Nat) (z : Int32) (xt : Nat) (yt : Nat) (ak : Nat) (isk : Int32) (ltp : Nat) (lrw : Nat) (rc : Nat) (lac : Nat) (lsh : Nat) (lhh : Nat) (lhg : Nat) (lhr : Nat) (law : Int32) : mtR l g yX10_lawOf wsX10_lawOf rmX10_lawOf [.ref lh, .int law] [cob lh 10 [.ref ak, .ref t, .ref yt, .ref xt, .int isk, .ref ltp, .ref lrw, .int (nI rc), .ref lac, .ref lsh, .ref lhh, .ref lhg, .ref lhr], cob t 8 [.ref ak, .ref tl, .ref tf, .ref ta, .ref tk, .ref tg, .ref tp, .ref tm, .int (nI cnt), .int (nI stp), .int z], cin g tl 4 laws] (fun rv W => rv = (some (.int (f_X10_lawOf laws law))) ∧ W = [cob lh 10 [.ref ak, .ref t, .ref yt, .ref xt, .int isk, .ref ltp, .ref lrw, .int (nI rc), .ref lac, .ref lsh, .ref lhh, .ref lhg, .ref lhr], cob t 8 [.ref ak, .ref tl, .ref tf, .ref ta, .ref tk, .ref tg, .ref tp, .ref tm, .int (nI cnt), .int (nI stp), .int z], cin g tl 4 laws]) := by
  refine mtR.of (cc := cX10_lawOf) (nL := 2) (ret := (some .int)) (own := RX10) (by decide +kernel) rfl rfl (Nat.le_of_ble_eq_true rfl) (fun p e s m below meth c hf hr hlk _ hk hst hw ls hl => ?_)
  have hx := hf.1
  have hb := hf.2.1
  have hts := hf.2.2.2.2
  have hl : lv_has ls 2 [(0, .ref lh), (1, .int law)] := hl
  have hinX10 : ∀ w ∈ u_ws RX10 TX10 13, w ∈ wsX10_lawOf := fun w h => List.mem_cons_of_mem _ (List.mem_append_left _ (List.mem_append_right _ h))
  have w_0 : Cond.fieldLink RX10 36 "LightMan" "now" "LLightMan$Tunnel;" ∈ wsX10_lawOf := List.mem_of_getElem? (i := 1) rfl
  have hinX8 : ∀ w ∈ u_ws RX8 TX8 11, w ∈ wsX10_lawOf := fun w h => List.mem_cons_of_mem _ (List.mem_append_right _ h)
  have w_1 : Cond.fieldLink RX10 115 "LightMan$Tunnel" "laws" "[I" ∈ wsX10_lawOf := List.mem_of_getElem? (i := 2) rfl
  refine lv_iload_n hx hb dX10_lawOf_0 rfl (lv_at hl 1 rfl) ?_
  refine lv_iconst (v := 0) hx hb dX10_lawOf_1 (by decide) ?_
  refine lv_iconst (v := 3) hx hb dX10_lawOf_2 (by decide) ?_
  refine mcS hf hk hst hw (c_X10_isOutside l g law 0 3) (va_cwS 3 hts gX10_lawOf_X10_isOutside rfl rfl rfl hdS_X10_isOutside ⟨Nat.le_of_ble_eq_true rfl, Nat.le_of_ble_eq_true rfl⟩) [] rfl rfl rfl hl.1 rfl (Nat.le_of_ble_eq_true rfl) dX10_lawOf_3 ⟨Nat.zero_le _, Nat.zero_le _⟩ (W' := [cob lh 10 [.ref ak, .ref t, .ref yt, .ref xt, .int isk, .ref ltp, .ref lrw, .int (nI rc), .ref lac, .ref lsh, .ref lhh, .ref lhg, .ref lhr], cob t 8 [.ref ak, .ref tl, .ref tf, .ref ta, .ref tk, .ref tg, .ref tp, .ref tm, .int (nI cnt), .int (nI stp), .int z], cin g tl 4 laws]) rfl (fun H locs hw => ?_)
  refine lv_if_eq (tgt := 13) hx hb dX10_lawOf_6 (by decide) (fun c_1 => ?_) (fun c_1 => ?_)
  · have hn := out_n (N := 3) (by decide) c_1
    have hn2 := hn.2
    refine lv_aload_n hx hb dX10_lawOf_13 rfl (lv_at hl 0 rfl) ?_
    refine rg hf hk hw hinX10 0 rfl rfl 1 (by decide) w_0 rfl dX10_lawOf_14 ?_
    refine rg hf hk hw hinX8 1 rfl rfl 1 (by decide) w_1 rfl dX10_lawOf_17 ?_
    refine lv_iload_n hx hb dX10_lawOf_20 rfl (lv_at hl 1 rfl) ?_
    refine lv_tope (y := nI (ix law)) hn.1 ?_
    refine rij hf hk hw 2 rfl (j := ix law) (vp_in_nI (by omega) (by omega)) (nI_clamp (by omega)) dX10_lawOf_21 ?_
    exact rE_i hf hr hlk hw ⟨congrArg some (by simp only [f_X10_lawOf, if_pos c_1]), rfl⟩ (show ([lh, t, tl] : List Nat) = [lh, t, tl] from rfl) dX10_lawOf_22
  · refine lv_iconst (v := (-1)) hx hb dX10_lawOf_9 (by decide) ?_
    refine lv_goto (tgt := 22) hx hb dX10_lawOf_10 (by decide) ?_
    exact rE_i hf hr hlk hw ⟨congrArg some (by simp only [f_X10_lawOf, if_neg c_1]), rfl⟩ (show ([lh, t, tl] : List Nat) = [lh, t, tl] from rfl) dX10_lawOf_22
theorem hdS_X10_isNoRest : yX10_isNoRest.cls ≠ "java/lang/invoke/MethodHandle" ∧ yX10_isNoRest.cls ≠ "java/lang/invoke/VarHandle" ∧ (parseMethodDescriptor yX10_isNoRest.desc).map (fun d => d.parameters.length) = some 1 := by decide +kernel
def f_X10_roster (fogs : Nat → Int32) (arms : Nat → Int32) (rest : Int32) (what : Int32) (v : Int32) : Int32 := if (f_X10_isOutside rest 0 5) = 0 then (if (f_X10_isOutside what 0 1) = 0 then (if (f_X10_isOutside v 0 9) = 0 then (if what = 0 then (fogs (ix rest)) else (arms (ix rest))) else (-1)) else (-1)) else (-1)
def f_X10_roster_w1 (fogs : Nat → Int32) (rest : Int32) (what : Int32) (v : Int32) : Nat → Int32 := if (f_X10_isOutside rest 0 5) = 0 then (if (f_X10_isOutside what 0 1) = 0 then (if (f_X10_isOutside v 0 9) = 0 then (if what = 0 then (upd fogs (ix rest) v) else fogs) else fogs) else fogs) else fogs
def f_X10_roster_w2 (arms : Nat → Int32) (rest : Int32) (what : Int32) (v : Int32) : Nat → Int32 := if (f_X10_isOutside rest 0 5) = 0 then (if (f_X10_isOutside what 0 1) = 0 then (if (f_X10_isOutside v 0 9) = 0 then (if what = 0 then arms else (upd arms (ix rest) v)) else arms) else arms) else arms
abbrev rmX10_roster : Room := { frames := 2, cells := 0, slots := 0, locals := 42 }
set_option maxHeartbeats 4000000 in
set_option maxRecDepth 100000 in
theorem c_X10_roster (l : Launch) (g : GG) (lh : Nat) (t : Nat) (tl : Nat) (tf : Nat) (ta : Nat) (tk : Nat) (tg : Nat) (tp : Nat) (tm : Nat) (fogs : Nat → Int32) (arms : Nat → Int32) (cnt : Nat) (stp : Nat) (z : Int32) (xt : Nat) (yt : Nat) (ak : Nat) (isk : Int32) (ltp : Nat) (lrw : Nat) (rc : Nat) (lac : Nat) (lsh : Nat) (lhh : Nat) (lhg : Nat) (lhr : Nat) (rest : Int32) (what : Int32) (v : Int32) : mtR l g yX10_roster wsX10_roster rmX10_roster [.ref lh, .int rest, .int what, .int v] [cob lh 10 [.ref ak, .ref t, .ref yt, .ref xt, .int isk, .ref ltp, .ref lrw, .int (nI rc), .ref lac, .ref lsh, .ref lhh, .ref lhg, .ref lhr], cob t 8 [.ref ak, .ref tl, .ref tf, .ref ta, .ref tk, .ref tg, .ref tp, .ref tm, .int (nI cnt), .int (nI stp), .int z], cin g tf 6 fogs, cin g ta 6 arms] (fun rv W => rv = (some (.int (f_X10_roster fogs arms rest what v))) ∧ W = [cob lh 10 [.ref ak, .ref t, .ref yt, .ref xt, .int isk, .ref ltp, .ref lrw, .int (nI rc), .ref lac, .ref lsh, .ref lhh, .ref lhg, .ref lhr], cob t 8 [.ref ak, .ref tl, .ref tf, .ref ta, .ref tk, .ref tg, .ref tp, .ref tm, .int (nI cnt), .int (nI stp), .int z], cin g tf 6 (f_X10_roster_w1 fogs rest what v), cin g ta 6 (f_X10_roster_w2 arms rest what v)]) := by
  refine mtR.of (cc := cX10_roster) (nL := 6) (ret := (some .int)) (own := RX10) (by decide +kernel) rfl rfl (Nat.le_of_ble_eq_true rfl) (fun p e s m below meth c hf hr hlk _ hk hst hw ls hl => ?_)
  have hx := hf.1
  have hb := hf.2.1
  have hts := hf.2.2.2.2
  have hl : lv_has ls 6 [(0, .ref lh), (1, .int rest), (2, .int what), (3, .int v)] := hl
  have hinX10 : ∀ w ∈ u_ws RX10 TX10 13, w ∈ wsX10_roster := fun w h => List.mem_cons_of_mem _ (List.mem_append_left _ (List.mem_append_right _ h))
  have w_0 : Cond.fieldLink RX10 36 "LightMan" "now" "LLightMan$Tunnel;" ∈ wsX10_roster := List.mem_of_getElem? (i := 1) rfl
  have hinX8 : ∀ w ∈ u_ws RX8 TX8 11, w ∈ wsX10_roster := fun w h => List.mem_cons_of_mem _ (List.mem_append_right _ h)
  have w_1 : Cond.fieldLink RX10 125 "LightMan$Tunnel" "arms" "[I" ∈ wsX10_roster := List.mem_of_getElem? (i := 3) rfl
  have w_2 : Cond.fieldLink RX10 122 "LightMan$Tunnel" "fogs" "[I" ∈ wsX10_roster := List.mem_of_getElem? (i := 2) rfl
  refine lv_iload_n hx hb dX10_roster_0 rfl (lv_at hl 1 rfl) ?_
  refine mcS hf hk hst hw (c_X10_isNoRest l g rest) (va_cwS 1 hts gX10_roster_X10_isNoRest rfl rfl rfl hdS_X10_isNoRest ⟨Nat.le_of_ble_eq_true rfl, Nat.le_of_ble_eq_true rfl⟩) [] rfl rfl rfl hl.1 rfl (Nat.le_of_ble_eq_true rfl) dX10_roster_1 ⟨Nat.zero_le _, Nat.zero_le _⟩ (W' := [cob lh 10 [.ref ak, .ref t, .ref yt, .ref xt, .int isk, .ref ltp, .ref lrw, .int (nI rc), .ref lac, .ref lsh, .ref lhh, .ref lhg, .ref lhr], cob t 8 [.ref ak, .ref tl, .ref tf, .ref ta, .ref tk, .ref tg, .ref tp, .ref tm, .int (nI cnt), .int (nI stp), .int z], cin g tf 6 fogs, cin g ta 6 arms]) rfl (fun H locs hw => ?_)
  refine lv_if_ne (tgt := 26) hx hb dX10_roster_4 (by decide) (fun c_1 => ?_) (fun c_1 => ?_)
  · refine lv_iconst (v := (-1)) hx hb dX10_roster_26 (by decide) ?_
    exact rE_i hf hr hlk hw ⟨congrArg some (by simp only [f_X10_roster, if_neg c_1]), by simp only [f_X10_roster_w1, f_X10_roster_w2, if_neg c_1]⟩ (show ([lh, t, tf, ta] : List Nat) = [lh, t, tf, ta] from rfl) dX10_roster_27
  · have hn := out_n (N := 5) (by decide) c_1
    have hn2 := hn.2
    refine lv_iload_n hx hb dX10_roster_7 rfl (lv_at hl 2 rfl) ?_
    refine lv_iconst (v := 0) hx hb dX10_roster_8 (by decide) ?_
    refine lv_iconst (v := 1) hx hb dX10_roster_9 (by decide) ?_
    refine mcS hf hk hst hw (c_X10_isOutside l g what 0 1) (va_cwS 3 hts gX10_roster_X10_isOutside rfl rfl rfl hdS_X10_isOutside ⟨Nat.le_of_ble_eq_true rfl, Nat.le_of_ble_eq_true rfl⟩) [] rfl rfl rfl hl.1 rfl (Nat.le_of_ble_eq_true rfl) dX10_roster_10 ⟨Nat.zero_le _, Nat.zero_le _⟩ (W' := [cob lh 10 [.ref ak, .ref t, .ref yt, .ref xt, .int isk, .ref ltp, .ref lrw, .int (nI rc), .ref lac, .ref lsh, .ref lhh, .ref lhg, .ref lhr], cob t 8 [.ref ak, .ref tl, .ref tf, .ref ta, .ref tk, .ref tg, .ref tp, .ref tm, .int (nI cnt), .int (nI stp), .int z], cin g tf 6 fogs, cin g ta 6 arms]) rfl (fun H locs hw => ?_)
    refine lv_if_ne (tgt := 26) hx hb dX10_roster_13 (by decide) (fun c_2 => ?_) (fun c_2 => ?_)
    · refine lv_iconst (v := (-1)) hx hb dX10_roster_26 (by decide) ?_
      exact rE_i hf hr hlk hw ⟨congrArg some (by simp only [f_X10_roster, if_pos c_1, if_neg c_2]), by simp only [f_X10_roster_w1, f_X10_roster_w2, if_pos c_1, if_neg c_2]⟩ (show ([lh, t, tf, ta] : List Nat) = [lh, t, tf, ta] from rfl) dX10_roster_27
    · refine lv_iload_n hx hb dX10_roster_16 rfl (lv_at hl 3 rfl) ?_
      refine lv_iconst (v := 0) hx hb dX10_roster_17 (by decide) ?_
      refine lv_bipush (v := 9) hx hb dX10_roster_18 (by decide) ?_
      refine mcS hf hk hst hw (c_X10_isOutside l g v 0 9) (va_cwS 3 hts gX10_roster_X10_isOutside rfl rfl rfl hdS_X10_isOutside ⟨Nat.le_of_ble_eq_true rfl, Nat.le_of_ble_eq_true rfl⟩) [] rfl rfl rfl hl.1 rfl (Nat.le_of_ble_eq_true rfl) dX10_roster_20 ⟨Nat.zero_le _, Nat.zero_le _⟩ (W' := [cob lh 10 [.ref ak, .ref t, .ref yt, .ref xt, .int isk, .ref ltp, .ref lrw, .int (nI rc), .ref lac, .ref lsh, .ref lhh, .ref lhg, .ref lhr], cob t 8 [.ref ak, .ref tl, .ref tf, .ref ta, .ref tk, .ref tg, .ref tp, .ref tm, .int (nI cnt), .int (nI stp), .int z], cin g tf 6 fogs, cin g ta 6 arms]) rfl (fun H locs hw => ?_)
      refine lv_if_eq (tgt := 28) hx hb dX10_roster_23 (by decide) (fun c_3 => ?_) (fun c_3 => ?_)
      · refine lv_iload_n hx hb dX10_roster_28 rfl (lv_at hl 2 rfl) ?_
        refine lv_if_ne (tgt := 42) hx hb dX10_roster_29 (by decide) (fun c_4 => ?_) (fun c_4 => ?_)
        · refine lv_aload_n hx hb dX10_roster_42 rfl (lv_at hl 0 rfl) ?_
          refine rg hf hk hw hinX10 0 rfl rfl 1 (by decide) w_0 rfl dX10_roster_43 ?_
          refine rg hf hk hw hinX8 1 rfl rfl 3 (by decide) w_1 rfl dX10_roster_46 ?_
          refine lv_astore (lv' := [(4, .ref ta), (0, .ref lh), (1, .int rest), (2, .int what), (3, .int v)]) hx hb dX10_roster_49 hl (by decide) rfl (fun ls hl => ?_)
          refine lv_aload hx hb dX10_roster_51 (lv_at hl 0 rfl) ?_
          refine lv_iload_n hx hb dX10_roster_53 rfl (lv_at hl 2 rfl) ?_
          refine lv_tope (y := nI (ix rest)) hn.1 ?_
          refine rij hf hk hw 3 rfl (j := ix rest) (vp_in_nI (by omega) (by omega)) (nI_clamp (by omega)) dX10_roster_54 ?_
          refine lv_istore (lv' := [(5, .int (arms (ix rest))), (4, .ref ta), (0, .ref lh), (1, .int rest), (2, .int what), (3, .int v)]) hx hb dX10_roster_55 hl (by decide) rfl (fun ls hl => ?_)
          refine lv_aload hx hb dX10_roster_57 (lv_at hl 1 rfl) ?_
          refine lv_iload_n hx hb dX10_roster_59 rfl (lv_at hl 3 rfl) ?_
          refine lv_tope (y := nI (ix rest)) hn.1 ?_
          refine lv_iload_n hx hb dX10_roster_60 rfl (lv_at hl 5 rfl) ?_
          refine rsj hf hk hw 3 rfl (j := ix rest) (vp_in_nI (by omega) (by omega)) (nI_clamp (by omega)) dX10_roster_61 (W' := [cob lh 10 [.ref ak, .ref t, .ref yt, .ref xt, .int isk, .ref ltp, .ref lrw, .int (nI rc), .ref lac, .ref lsh, .ref lhh, .ref lhg, .ref lhr], cob t 8 [.ref ak, .ref tl, .ref tf, .ref ta, .ref tk, .ref tg, .ref tp, .ref tm, .int (nI cnt), .int (nI stp), .int z], cin g tf 6 fogs, cin g ta 6 (upd arms (ix rest) v)]) rfl (fun H locs hw => ?_)
          refine lv_iload hx hb dX10_roster_62 (lv_at hl 0 rfl) ?_
          exact rE_i hf hr hlk hw ⟨congrArg some (by simp only [f_X10_roster, if_pos c_1, if_pos c_2, if_pos c_3, if_neg c_4]), by simp only [f_X10_roster_w1, f_X10_roster_w2, if_pos c_1, if_pos c_2, if_pos c_3, if_neg c_4]⟩ (show ([lh, t, tf, ta] : List Nat) = [lh, t, tf, ta] from rfl) dX10_roster_64
        · refine lv_aload_n hx hb dX10_roster_32 rfl (lv_at hl 0 rfl) ?_
          refine rg hf hk hw hinX10 0 rfl rfl 1 (by decide) w_0 rfl dX10_roster_33 ?_
          refine rg hf hk hw hinX8 1 rfl rfl 2 (by decide) w_2 rfl dX10_roster_36 ?_
          refine lv_goto (tgt := 49) hx hb dX10_roster_39 (by decide) ?_
          refine lv_astore (lv' := [(4, .ref tf), (0, .ref lh), (1, .int rest), (2, .int what), (3, .int v)]) hx hb dX10_roster_49 hl (by decide) rfl (fun ls hl => ?_)
          refine lv_aload hx hb dX10_roster_51 (lv_at hl 0 rfl) ?_
          refine lv_iload_n hx hb dX10_roster_53 rfl (lv_at hl 2 rfl) ?_
          refine lv_tope (y := nI (ix rest)) hn.1 ?_
          refine rij hf hk hw 2 rfl (j := ix rest) (vp_in_nI (by omega) (by omega)) (nI_clamp (by omega)) dX10_roster_54 ?_
          refine lv_istore (lv' := [(5, .int (fogs (ix rest))), (4, .ref tf), (0, .ref lh), (1, .int rest), (2, .int what), (3, .int v)]) hx hb dX10_roster_55 hl (by decide) rfl (fun ls hl => ?_)
          refine lv_aload hx hb dX10_roster_57 (lv_at hl 1 rfl) ?_
          refine lv_iload_n hx hb dX10_roster_59 rfl (lv_at hl 3 rfl) ?_
          refine lv_tope (y := nI (ix rest)) hn.1 ?_
          refine lv_iload_n hx hb dX10_roster_60 rfl (lv_at hl 5 rfl) ?_
          refine rsj hf hk hw 2 rfl (j := ix rest) (vp_in_nI (by omega) (by omega)) (nI_clamp (by omega)) dX10_roster_61 (W' := [cob lh 10 [.ref ak, .ref t, .ref yt, .ref xt, .int isk, .ref ltp, .ref lrw, .int (nI rc), .ref lac, .ref lsh, .ref lhh, .ref lhg, .ref lhr], cob t 8 [.ref ak, .ref tl, .ref tf, .ref ta, .ref tk, .ref tg, .ref tp, .ref tm, .int (nI cnt), .int (nI stp), .int z], cin g tf 6 (upd fogs (ix rest) v), cin g ta 6 arms]) rfl (fun H locs hw => ?_)
          refine lv_iload hx hb dX10_roster_62 (lv_at hl 0 rfl) ?_
          exact rE_i hf hr hlk hw ⟨congrArg some (by simp only [f_X10_roster, if_pos c_1, if_pos c_2, if_pos c_3, if_pos c_4]), by simp only [f_X10_roster_w1, f_X10_roster_w2, if_pos c_1, if_pos c_2, if_pos c_3, if_pos c_4]⟩ (show ([lh, t, tf, ta] : List Nat) = [lh, t, tf, ta] from rfl) dX10_roster_64
      · refine lv_iconst (v := (-1)) hx hb dX10_roster_26 (by decide) ?_
        exact rE_i hf hr hlk hw ⟨congrArg some (by simp only [f_X10_roster, if_pos c_1, if_pos c_2, if_neg c_3]), by simp only [f_X10_roster_w1, f_X10_roster_w2, if_pos c_1, if_pos c_2, if_neg c_3]⟩ (show ([lh, t, tf, ta] : List Nat) = [lh, t, tf, ta] from rfl) dX10_roster_27
def f_X10_rosterOf (fogs : Nat → Int32) (arms : Nat → Int32) (rest : Int32) (what : Int32) : Int32 := if (f_X10_isOutside rest 0 5) = 0 then (if (f_X10_isOutside what 0 1) = 0 then (if what = 0 then (fogs (ix rest)) else (arms (ix rest))) else (-1)) else (-1)
abbrev rmX10_rosterOf : Room := { frames := 2, cells := 0, slots := 0, locals := 42 }
set_option maxHeartbeats 4000000 in
set_option maxRecDepth 100000 in
theorem c_X10_rosterOf (l : Launch) (g : GG) (lh : Nat) (t : Nat) (tl : Nat) (tf : Nat) (ta : Nat) (tk : Nat) (tg : Nat) (tp : Nat) (tm : Nat) (fogs : Nat → Int32) (arms : Nat → Int32) (cnt : Nat) (stp : Nat) (z : Int32) (xt : Nat) (yt : Nat) (ak : Nat) (isk : Int32) (ltp : Nat) (lrw : Nat) (rc : Nat) (lac : Nat) (lsh : Nat) (lhh : Nat) (lhg : Nat) (lhr : Nat) (rest : Int32) (what : Int32) : mtR l g yX10_rosterOf wsX10_rosterOf rmX10_rosterOf [.ref lh, .int rest, .int what] [cob lh 10 [.ref ak, .ref t, .ref yt, .ref xt, .int isk, .ref ltp, .ref lrw, .int (nI rc), .ref lac, .ref lsh, .ref lhh, .ref lhg, .ref lhr], cob t 8 [.ref ak, .ref tl, .ref tf, .ref ta, .ref tk, .ref tg, .ref tp, .ref tm, .int (nI cnt), .int (nI stp), .int z], cin g tf 6 fogs, cin g ta 6 arms] (fun rv W => rv = (some (.int (f_X10_rosterOf fogs arms rest what))) ∧ W = [cob lh 10 [.ref ak, .ref t, .ref yt, .ref xt, .int isk, .ref ltp, .ref lrw, .int (nI rc), .ref lac, .ref lsh, .ref lhh, .ref lhg, .ref lhr], cob t 8 [.ref ak, .ref tl, .ref tf, .ref ta, .ref tk, .ref tg, .ref tp, .ref tm, .int (nI cnt), .int (nI stp), .int z], cin g tf 6 fogs, cin g ta 6 arms]) := by
  refine mtR.of (cc := cX10_rosterOf) (nL := 3) (ret := (some .int)) (own := RX10) (by decide +kernel) rfl rfl (Nat.le_of_ble_eq_true rfl) (fun p e s m below meth c hf hr hlk _ hk hst hw ls hl => ?_)
  have hx := hf.1
  have hb := hf.2.1
  have hts := hf.2.2.2.2
  have hl : lv_has ls 3 [(0, .ref lh), (1, .int rest), (2, .int what)] := hl
  have hinX10 : ∀ w ∈ u_ws RX10 TX10 13, w ∈ wsX10_rosterOf := fun w h => List.mem_cons_of_mem _ (List.mem_append_left _ (List.mem_append_right _ h))
  have w_0 : Cond.fieldLink RX10 36 "LightMan" "now" "LLightMan$Tunnel;" ∈ wsX10_rosterOf := List.mem_of_getElem? (i := 1) rfl
  have hinX8 : ∀ w ∈ u_ws RX8 TX8 11, w ∈ wsX10_rosterOf := fun w h => List.mem_cons_of_mem _ (List.mem_append_right _ h)
  have w_1 : Cond.fieldLink RX10 125 "LightMan$Tunnel" "arms" "[I" ∈ wsX10_rosterOf := List.mem_of_getElem? (i := 3) rfl
  have w_2 : Cond.fieldLink RX10 122 "LightMan$Tunnel" "fogs" "[I" ∈ wsX10_rosterOf := List.mem_of_getElem? (i := 2) rfl
  refine lv_iload_n hx hb dX10_rosterOf_0 rfl (lv_at hl 1 rfl) ?_
  refine mcS hf hk hst hw (c_X10_isNoRest l g rest) (va_cwS 1 hts gX10_rosterOf_X10_isNoRest rfl rfl rfl hdS_X10_isNoRest ⟨Nat.le_of_ble_eq_true rfl, Nat.le_of_ble_eq_true rfl⟩) [] rfl rfl rfl hl.1 rfl (Nat.le_of_ble_eq_true rfl) dX10_rosterOf_1 ⟨Nat.zero_le _, Nat.zero_le _⟩ (W' := [cob lh 10 [.ref ak, .ref t, .ref yt, .ref xt, .int isk, .ref ltp, .ref lrw, .int (nI rc), .ref lac, .ref lsh, .ref lhh, .ref lhg, .ref lhr], cob t 8 [.ref ak, .ref tl, .ref tf, .ref ta, .ref tk, .ref tg, .ref tp, .ref tm, .int (nI cnt), .int (nI stp), .int z], cin g tf 6 fogs, cin g ta 6 arms]) rfl (fun H locs hw => ?_)
  refine lv_if_ne (tgt := 16) hx hb dX10_rosterOf_4 (by decide) (fun c_1 => ?_) (fun c_1 => ?_)
  · refine lv_iconst (v := (-1)) hx hb dX10_rosterOf_16 (by decide) ?_
    exact rE_i hf hr hlk hw ⟨congrArg some (by simp only [f_X10_rosterOf, if_neg c_1]), rfl⟩ (show ([lh, t, tf, ta] : List Nat) = [lh, t, tf, ta] from rfl) dX10_rosterOf_17
  · have hn := out_n (N := 5) (by decide) c_1
    have hn2 := hn.2
    refine lv_iload_n hx hb dX10_rosterOf_7 rfl (lv_at hl 2 rfl) ?_
    refine lv_iconst (v := 0) hx hb dX10_rosterOf_8 (by decide) ?_
    refine lv_iconst (v := 1) hx hb dX10_rosterOf_9 (by decide) ?_
    refine mcS hf hk hst hw (c_X10_isOutside l g what 0 1) (va_cwS 3 hts gX10_rosterOf_X10_isOutside rfl rfl rfl hdS_X10_isOutside ⟨Nat.le_of_ble_eq_true rfl, Nat.le_of_ble_eq_true rfl⟩) [] rfl rfl rfl hl.1 rfl (Nat.le_of_ble_eq_true rfl) dX10_rosterOf_10 ⟨Nat.zero_le _, Nat.zero_le _⟩ (W' := [cob lh 10 [.ref ak, .ref t, .ref yt, .ref xt, .int isk, .ref ltp, .ref lrw, .int (nI rc), .ref lac, .ref lsh, .ref lhh, .ref lhg, .ref lhr], cob t 8 [.ref ak, .ref tl, .ref tf, .ref ta, .ref tk, .ref tg, .ref tp, .ref tm, .int (nI cnt), .int (nI stp), .int z], cin g tf 6 fogs, cin g ta 6 arms]) rfl (fun H locs hw => ?_)
    refine lv_if_eq (tgt := 18) hx hb dX10_rosterOf_13 (by decide) (fun c_2 => ?_) (fun c_2 => ?_)
    · refine lv_iload_n hx hb dX10_rosterOf_18 rfl (lv_at hl 2 rfl) ?_
      refine lv_if_ne (tgt := 34) hx hb dX10_rosterOf_19 (by decide) (fun c_3 => ?_) (fun c_3 => ?_)
      · refine lv_aload_n hx hb dX10_rosterOf_34 rfl (lv_at hl 0 rfl) ?_
        refine rg hf hk hw hinX10 0 rfl rfl 1 (by decide) w_0 rfl dX10_rosterOf_35 ?_
        refine rg hf hk hw hinX8 1 rfl rfl 3 (by decide) w_1 rfl dX10_rosterOf_38 ?_
        refine lv_iload_n hx hb dX10_rosterOf_41 rfl (lv_at hl 1 rfl) ?_
        refine lv_tope (y := nI (ix rest)) hn.1 ?_
        refine rij hf hk hw 3 rfl (j := ix rest) (vp_in_nI (by omega) (by omega)) (nI_clamp (by omega)) dX10_rosterOf_42 ?_
        exact rE_i hf hr hlk hw ⟨congrArg some (by simp only [f_X10_rosterOf, if_pos c_1, if_pos c_2, if_neg c_3]), rfl⟩ (show ([lh, t, tf, ta] : List Nat) = [lh, t, tf, ta] from rfl) dX10_rosterOf_43
      · refine lv_aload_n hx hb dX10_rosterOf_22 rfl (lv_at hl 0 rfl) ?_
        refine rg hf hk hw hinX10 0 rfl rfl 1 (by decide) w_0 rfl dX10_rosterOf_23 ?_
        refine rg hf hk hw hinX8 1 rfl rfl 2 (by decide) w_2 rfl dX10_rosterOf_26 ?_
        refine lv_iload_n hx hb dX10_rosterOf_29 rfl (lv_at hl 1 rfl) ?_
        refine lv_tope (y := nI (ix rest)) hn.1 ?_
        refine rij hf hk hw 2 rfl (j := ix rest) (vp_in_nI (by omega) (by omega)) (nI_clamp (by omega)) dX10_rosterOf_30 ?_
        refine lv_goto (tgt := 43) hx hb dX10_rosterOf_31 (by decide) ?_
        exact rE_i hf hr hlk hw ⟨congrArg some (by simp only [f_X10_rosterOf, if_pos c_1, if_pos c_2, if_pos c_3]), rfl⟩ (show ([lh, t, tf, ta] : List Nat) = [lh, t, tf, ta] from rfl) dX10_rosterOf_43
    · refine lv_iconst (v := (-1)) hx hb dX10_rosterOf_16 (by decide) ?_
      exact rE_i hf hr hlk hw ⟨congrArg some (by simp only [f_X10_rosterOf, if_pos c_1, if_neg c_2]), rfl⟩ (show ([lh, t, tf, ta] : List Nat) = [lh, t, tf, ta] from rfl) dX10_rosterOf_17
theorem hdS_X10_isNoKind : yX10_isNoKind.cls ≠ "java/lang/invoke/MethodHandle" ∧ yX10_isNoKind.cls ≠ "java/lang/invoke/VarHandle" ∧ (parseMethodDescriptor yX10_isNoKind.desc).map (fun d => d.parameters.length) = some 1 := by decide +kernel
theorem hdV_X8_add : yX8_add.cls = RX8 ∧ yX8_add.cls ≠ "java/lang/invoke/MethodHandle" ∧ yX8_add.cls ≠ "java/lang/invoke/VarHandle" ∧ (parseMethodDescriptor yX8_add.desc).map (fun d => d.parameters.length) = some 3 := by decide +kernel
def f_X10_goer (cnt : Nat) (kind : Int32) (faith : Int32) (place : Int32) : Int32 := if (f_X10_isOutside kind 0 5) = 0 then (if (f_X10_isOutside faith 0 99) = 0 then (if (f_X10_isOutside place 0 11) = 0 then (if (nI cnt) < 8 then (nI cnt) else (-2)) else (-1)) else (-1)) else (-1)
def f_X10_goer_w1 (cnt : Nat) (kind : Int32) (faith : Int32) (place : Int32) : Int32 := if (f_X10_isOutside kind 0 5) = 0 then (if (f_X10_isOutside faith 0 99) = 0 then (if (f_X10_isOutside place 0 11) = 0 then (if (nI cnt) < 8 then (nI (cnt + 1)) else (nI cnt)) else (nI cnt)) else (nI cnt)) else (nI cnt)
def f_X10_goer_w2 (kinds : Nat → Int32) (cnt : Nat) (kind : Int32) (faith : Int32) (place : Int32) : Nat → Int32 := if (f_X10_isOutside kind 0 5) = 0 then (if (f_X10_isOutside faith 0 99) = 0 then (if (f_X10_isOutside place 0 11) = 0 then (if (nI cnt) < 8 then (upd kinds cnt kind) else kinds) else kinds) else kinds) else kinds
def f_X10_goer_w3 (faiths : Nat → Int32) (cnt : Nat) (kind : Int32) (faith : Int32) (place : Int32) : Nat → Int32 := if (f_X10_isOutside kind 0 5) = 0 then (if (f_X10_isOutside faith 0 99) = 0 then (if (f_X10_isOutside place 0 11) = 0 then (if (nI cnt) < 8 then (upd faiths cnt faith) else faiths) else faiths) else faiths) else faiths
def f_X10_goer_w4 (places : Nat → Int32) (cnt : Nat) (kind : Int32) (faith : Int32) (place : Int32) : Nat → Int32 := if (f_X10_isOutside kind 0 5) = 0 then (if (f_X10_isOutside faith 0 99) = 0 then (if (f_X10_isOutside place 0 11) = 0 then (if (nI cnt) < 8 then (upd places cnt place) else places) else places) else places) else places
def f_X10_goer_w5 (moved : Nat → Int32) (cnt : Nat) (kind : Int32) (faith : Int32) (place : Int32) : Nat → Int32 := if (f_X10_isOutside kind 0 5) = 0 then (if (f_X10_isOutside faith 0 99) = 0 then (if (f_X10_isOutside place 0 11) = 0 then (if (nI cnt) < 8 then (upd moved cnt 0) else moved) else moved) else moved) else moved
abbrev rmX10_goer : Room := { frames := 2, cells := 0, slots := 0, locals := 42 }
set_option maxHeartbeats 4000000 in
set_option maxRecDepth 100000 in
theorem c_X10_goer (l : Launch) (g : GG) (lh : Nat) (t : Nat) (tl : Nat) (tf : Nat) (ta : Nat) (tk : Nat) (tg : Nat) (tp : Nat) (tm : Nat) (kinds : Nat → Int32) (faiths : Nat → Int32) (places : Nat → Int32) (moved : Nat → Int32) (cnt : Nat) (stp : Nat) (z : Int32) (xt : Nat) (yt : Nat) (ak : Nat) (isk : Int32) (ltp : Nat) (lrw : Nat) (rc : Nat) (lac : Nat) (lsh : Nat) (lhh : Nat) (lhg : Nat) (lhr : Nat) (kind : Int32) (faith : Int32) (place : Int32) (hc8 : cnt ≤ 8) : mtR l g yX10_goer wsX10_goer rmX10_goer [.ref lh, .int kind, .int faith, .int place] [cob lh 10 [.ref ak, .ref t, .ref yt, .ref xt, .int isk, .ref ltp, .ref lrw, .int (nI rc), .ref lac, .ref lsh, .ref lhh, .ref lhg, .ref lhr], cob t 8 [.ref ak, .ref tl, .ref tf, .ref ta, .ref tk, .ref tg, .ref tp, .ref tm, .int (nI cnt), .int (nI stp), .int z], cin g tk 8 kinds, cin g tg 8 faiths, cin g tp 8 places, cin g tm 8 moved] (fun rv W => rv = (some (.int (f_X10_goer cnt kind faith place))) ∧ W = [cob lh 10 [.ref ak, .ref t, .ref yt, .ref xt, .int isk, .ref ltp, .ref lrw, .int (nI rc), .ref lac, .ref lsh, .ref lhh, .ref lhg, .ref lhr], cob t 8 [.ref ak, .ref tl, .ref tf, .ref ta, .ref tk, .ref tg, .ref tp, .ref tm, .int (f_X10_goer_w1 cnt kind faith place), .int (nI stp), .int z], cin g tk 8 (f_X10_goer_w2 kinds cnt kind faith place), cin g tg 8 (f_X10_goer_w3 faiths cnt kind faith place), cin g tp 8 (f_X10_goer_w4 places cnt kind faith place), cin g tm 8 (f_X10_goer_w5 moved cnt kind faith place)]) := by
  refine mtR.of (cc := cX10_goer) (nL := 4) (ret := (some .int)) (own := RX10) (by decide +kernel) rfl rfl (Nat.le_of_ble_eq_true rfl) (fun p e s m below meth c hf hr hlk _ hk hst hw ls hl => ?_)
  have hx := hf.1
  have hb := hf.2.1
  have hts := hf.2.2.2.2
  have hl : lv_has ls 4 [(0, .ref lh), (1, .int kind), (2, .int faith), (3, .int place)] := hl
  have hinX10 : ∀ w ∈ u_ws RX10 TX10 13, w ∈ wsX10_goer := fun w h => List.mem_cons_of_mem _ (List.mem_append_left _ (List.mem_append_right _ h))
  have w_0 : Cond.fieldLink RX10 36 "LightMan" "now" "LLightMan$Tunnel;" ∈ wsX10_goer := List.mem_of_getElem? (i := 1) rfl
  have hinX8 : ∀ w ∈ u_ws RX8 TX8 11, w ∈ wsX10_goer := fun w h => List.mem_cons_of_mem _ (List.mem_append_right _ h)
  have w_1 : Cond.fieldLink RX10 109 "LightMan$Tunnel" "count" "I" ∈ wsX10_goer := List.mem_of_getElem? (i := 2) rfl
  refine lv_iload_n hx hb dX10_goer_0 rfl (lv_at hl 1 rfl) ?_
  refine mcS hf hk hst hw (c_X10_isNoKind l g kind) (va_cwS 1 hts gX10_goer_X10_isNoKind rfl rfl rfl hdS_X10_isNoKind ⟨Nat.le_of_ble_eq_true rfl, Nat.le_of_ble_eq_true rfl⟩) [] rfl rfl rfl hl.1 rfl (Nat.le_of_ble_eq_true rfl) dX10_goer_1 ⟨Nat.zero_le _, Nat.zero_le _⟩ (W' := [cob lh 10 [.ref ak, .ref t, .ref yt, .ref xt, .int isk, .ref ltp, .ref lrw, .int (nI rc), .ref lac, .ref lsh, .ref lhh, .ref lhg, .ref lhr], cob t 8 [.ref ak, .ref tl, .ref tf, .ref ta, .ref tk, .ref tg, .ref tp, .ref tm, .int (nI cnt), .int (nI stp), .int z], cin g tk 8 kinds, cin g tg 8 faiths, cin g tp 8 places, cin g tm 8 moved]) rfl (fun H locs hw => ?_)
  refine lv_if_ne (tgt := 27) hx hb dX10_goer_4 (by decide) (fun c_1 => ?_) (fun c_1 => ?_)
  · refine lv_iconst (v := (-1)) hx hb dX10_goer_27 (by decide) ?_
    exact rE_i hf hr hlk hw ⟨congrArg some (by simp only [f_X10_goer, if_neg c_1]), by simp only [f_X10_goer_w1, f_X10_goer_w2, f_X10_goer_w3, f_X10_goer_w4, f_X10_goer_w5, if_neg c_1]⟩ (show ([lh, t, tk, tg, tp, tm] : List Nat) = [lh, t, tk, tg, tp, tm] from rfl) dX10_goer_28
  · refine lv_iload_n hx hb dX10_goer_7 rfl (lv_at hl 2 rfl) ?_
    refine lv_iconst (v := 0) hx hb dX10_goer_8 (by decide) ?_
    refine lv_bipush (v := 99) hx hb dX10_goer_9 (by decide) ?_
    refine mcS hf hk hst hw (c_X10_isOutside l g faith 0 99) (va_cwS 3 hts gX10_goer_X10_isOutside rfl rfl rfl hdS_X10_isOutside ⟨Nat.le_of_ble_eq_true rfl, Nat.le_of_ble_eq_true rfl⟩) [] rfl rfl rfl hl.1 rfl (Nat.le_of_ble_eq_true rfl) dX10_goer_11 ⟨Nat.zero_le _, Nat.zero_le _⟩ (W' := [cob lh 10 [.ref ak, .ref t, .ref yt, .ref xt, .int isk, .ref ltp, .ref lrw, .int (nI rc), .ref lac, .ref lsh, .ref lhh, .ref lhg, .ref lhr], cob t 8 [.ref ak, .ref tl, .ref tf, .ref ta, .ref tk, .ref tg, .ref tp, .ref tm, .int (nI cnt), .int (nI stp), .int z], cin g tk 8 kinds, cin g tg 8 faiths, cin g tp 8 places, cin g tm 8 moved]) rfl (fun H locs hw => ?_)
    refine lv_if_ne (tgt := 27) hx hb dX10_goer_14 (by decide) (fun c_2 => ?_) (fun c_2 => ?_)
    · refine lv_iconst (v := (-1)) hx hb dX10_goer_27 (by decide) ?_
      exact rE_i hf hr hlk hw ⟨congrArg some (by simp only [f_X10_goer, if_pos c_1, if_neg c_2]), by simp only [f_X10_goer_w1, f_X10_goer_w2, f_X10_goer_w3, f_X10_goer_w4, f_X10_goer_w5, if_pos c_1, if_neg c_2]⟩ (show ([lh, t, tk, tg, tp, tm] : List Nat) = [lh, t, tk, tg, tp, tm] from rfl) dX10_goer_28
    · refine lv_iload_n hx hb dX10_goer_17 rfl (lv_at hl 3 rfl) ?_
      refine lv_iconst (v := 0) hx hb dX10_goer_18 (by decide) ?_
      refine lv_bipush (v := 11) hx hb dX10_goer_19 (by decide) ?_
      refine mcS hf hk hst hw (c_X10_isOutside l g place 0 11) (va_cwS 3 hts gX10_goer_X10_isOutside rfl rfl rfl hdS_X10_isOutside ⟨Nat.le_of_ble_eq_true rfl, Nat.le_of_ble_eq_true rfl⟩) [] rfl rfl rfl hl.1 rfl (Nat.le_of_ble_eq_true rfl) dX10_goer_21 ⟨Nat.zero_le _, Nat.zero_le _⟩ (W' := [cob lh 10 [.ref ak, .ref t, .ref yt, .ref xt, .int isk, .ref ltp, .ref lrw, .int (nI rc), .ref lac, .ref lsh, .ref lhh, .ref lhg, .ref lhr], cob t 8 [.ref ak, .ref tl, .ref tf, .ref ta, .ref tk, .ref tg, .ref tp, .ref tm, .int (nI cnt), .int (nI stp), .int z], cin g tk 8 kinds, cin g tg 8 faiths, cin g tp 8 places, cin g tm 8 moved]) rfl (fun H locs hw => ?_)
      refine lv_if_eq (tgt := 29) hx hb dX10_goer_24 (by decide) (fun c_3 => ?_) (fun c_3 => ?_)
      · refine lv_aload_n hx hb dX10_goer_29 rfl (lv_at hl 0 rfl) ?_
        refine rg hf hk hw hinX10 0 rfl rfl 1 (by decide) w_0 rfl dX10_goer_30 ?_
        refine rg hf hk hw hinX8 1 rfl rfl 8 (by decide) w_1 rfl dX10_goer_33 ?_
        refine lv_bipush (v := 8) hx hb dX10_goer_36 (by decide) ?_
        refine lv_icmp_lt (tgt := 44) hx hb dX10_goer_38 (by decide) (fun c_4 => ?_) (fun c_4 => ?_)
        · have hc : cnt < 8 := (nI_ltI (b := 8) (by omega) (by omega)).mp c_4
          refine lv_aload_n hx hb dX10_goer_44 rfl (lv_at hl 0 rfl) ?_
          refine rg hf hk hw hinX10 0 rfl rfl 1 (by decide) w_0 rfl dX10_goer_45 ?_
          refine lv_iload_n hx hb dX10_goer_48 rfl (lv_at hl 1 rfl) ?_
          refine lv_iload_n hx hb dX10_goer_49 rfl (lv_at hl 2 rfl) ?_
          refine lv_iload_n hx hb dX10_goer_50 rfl (lv_at hl 3 rfl) ?_
          refine mcV hf hk hst hw (c_X8_add l g t tl tf ta tk tg tp tm kinds faiths places moved cnt stp z ak kind faith place (by omega)) (cwV 3 hts gX10_goer_X8_add rfl rfl rfl hdV_X8_add ⟨Nat.le_of_ble_eq_true rfl, Nat.le_of_ble_eq_true rfl⟩) [1, 2, 3, 4, 5] rfl rfl 1 rfl rfl rfl hl.1 rfl (Nat.le_of_ble_eq_true rfl) dX10_goer_51 ⟨Nat.zero_le _, Nat.zero_le _⟩ (W' := [cob lh 10 [.ref ak, .ref t, .ref yt, .ref xt, .int isk, .ref ltp, .ref lrw, .int (nI rc), .ref lac, .ref lsh, .ref lhh, .ref lhg, .ref lhr], cob t 8 [.ref ak, .ref tl, .ref tf, .ref ta, .ref tk, .ref tg, .ref tp, .ref tm, .int (nI (cnt + 1)), .int (nI stp), .int z], cin g tk 8 (upd kinds cnt kind), cin g tg 8 (upd faiths cnt faith), cin g tp 8 (upd places cnt place), cin g tm 8 (upd moved cnt 0)]) rfl (fun H locs hw => ?_)
          refine lv_aload_n hx hb dX10_goer_54 rfl (lv_at hl 0 rfl) ?_
          refine rg hf hk hw hinX10 0 rfl rfl 1 (by decide) w_0 rfl dX10_goer_55 ?_
          refine rg hf hk hw hinX8 1 rfl rfl 8 (by decide) w_1 rfl dX10_goer_58 ?_
          refine lv_iconst (v := 1) hx hb dX10_goer_61 (by decide) ?_
          refine lv_isub hx hb dX10_goer_62 ?_
          refine lv_tope (y := nI cnt) (nI_pred cnt) ?_
          exact rE_i hf hr hlk hw ⟨congrArg some (by simp only [f_X10_goer, if_pos c_1, if_pos c_2, if_pos c_3, if_pos c_4]), by simp only [f_X10_goer_w1, f_X10_goer_w2, f_X10_goer_w3, f_X10_goer_w4, f_X10_goer_w5, if_pos c_1, if_pos c_2, if_pos c_3, if_pos c_4]⟩ (show ([lh, t, tk, tg, tp, tm] : List Nat) = [lh, t, tk, tg, tp, tm] from rfl) dX10_goer_63
        · refine lv_bipush (v := (-2)) hx hb dX10_goer_41 (by decide) ?_
          exact rE_i hf hr hlk hw ⟨congrArg some (by simp only [f_X10_goer, if_pos c_1, if_pos c_2, if_pos c_3, if_neg c_4]), by simp only [f_X10_goer_w1, f_X10_goer_w2, f_X10_goer_w3, f_X10_goer_w4, f_X10_goer_w5, if_pos c_1, if_pos c_2, if_pos c_3, if_neg c_4]⟩ (show ([lh, t, tk, tg, tp, tm] : List Nat) = [lh, t, tk, tg, tp, tm] from rfl) dX10_goer_43
      · refine lv_iconst (v := (-1)) hx hb dX10_goer_27 (by decide) ?_
        exact rE_i hf hr hlk hw ⟨congrArg some (by simp only [f_X10_goer, if_pos c_1, if_pos c_2, if_neg c_3]), by simp only [f_X10_goer_w1, f_X10_goer_w2, f_X10_goer_w3, f_X10_goer_w4, f_X10_goer_w5, if_pos c_1, if_pos c_2, if_neg c_3]⟩ (show ([lh, t, tk, tg, tp, tm] : List Nat) = [lh, t, tk, tg, tp, tm] from rfl) dX10_goer_28
theorem hdV_X8_has : yX8_has.cls = RX8 ∧ yX8_has.cls ≠ "java/lang/invoke/MethodHandle" ∧ yX8_has.cls ≠ "java/lang/invoke/VarHandle" ∧ (parseMethodDescriptor yX8_has.desc).map (fun d => d.parameters.length) = some 1 := by decide +kernel
def f_X10_of (laws : Nat → Int32) (fogs : Nat → Int32) (arms : Nat → Int32) (kinds : Nat → Int32) (faiths : Nat → Int32) (places : Nat → Int32) (moved : Nat → Int32) (cnt : Nat) (stp : Nat) (goer : Int32) (what : Int32) : Int32 := if (f_X8_has cnt goer) = 0 then (-1) else (if what = 0 then (kinds (ix goer)) else (if what = 1 then (faiths (ix goer)) else (if what = 2 then (places (ix goer)) else (if what = 3 then (moved (ix goer)) else (if what = 4 then (if (snow (kinds (ix goer)) (fogs (stp % 6)) (arms (stp % 6)) (laws 0) (places (ix goer))) = 0 then 0 else 1) else (-1))))))
abbrev rmX10_of : Room := { frames := 5, cells := 0, slots := 0, locals := 113 }
set_option maxHeartbeats 4000000 in
set_option maxRecDepth 100000 in
theorem c_X10_of (l : Launch) (g : GG) (lh : Nat) (t : Nat) (tl : Nat) (tf : Nat) (ta : Nat) (tk : Nat) (tg : Nat) (tp : Nat) (tm : Nat) (laws : Nat → Int32) (fogs : Nat → Int32) (arms : Nat → Int32) (kinds : Nat → Int32) (faiths : Nat → Int32) (places : Nat → Int32) (moved : Nat → Int32) (cnt : Nat) (stp : Nat) (z : Int32) (xt : Nat) (yt : Nat) (ak : Nat) (k0 : Nat) (k1 : Nat) (k2 : Nat) (k3 : Nat) (k4 : Nat) (k5 : Nat) (isk : Int32) (ltp : Nat) (lrw : Nat) (rc : Nat) (lac : Nat) (lsh : Nat) (lhh : Nat) (lhg : Nat) (lhr : Nat) (goer : Int32) (what : Int32) (hc8 : cnt ≤ 8) (hsp : stp < 2 ^ 30) (hkd : ∀ j, j < cnt → isK (kinds j)) : mtR l g yX10_of wsX10_of rmX10_of [.ref lh, .int goer, .int what] [cob lh 10 [.ref ak, .ref t, .ref yt, .ref xt, .int isk, .ref ltp, .ref lrw, .int (nI rc), .ref lac, .ref lsh, .ref lhh, .ref lhg, .ref lhr], cob t 8 [.ref ak, .ref tl, .ref tf, .ref ta, .ref tk, .ref tg, .ref tp, .ref tm, .int (nI cnt), .int (nI stp), .int z], cin g tl 4 laws, cin g tf 6 fogs, cin g ta 6 arms, cin g tk 8 kinds, cin g tg 8 faiths, cin g tp 8 places, cin g tm 8 moved, ckd g ak 6 (kdf k0 k1 k2 k3 k4 k5), cob k0 4 [], cob k1 2 [], cob k2 5 [], cob k3 6 [], cob k4 9 [], cob k5 1 []] (fun rv W => rv = (some (.int (f_X10_of laws fogs arms kinds faiths places moved cnt stp goer what))) ∧ W = [cob lh 10 [.ref ak, .ref t, .ref yt, .ref xt, .int isk, .ref ltp, .ref lrw, .int (nI rc), .ref lac, .ref lsh, .ref lhh, .ref lhg, .ref lhr], cob t 8 [.ref ak, .ref tl, .ref tf, .ref ta, .ref tk, .ref tg, .ref tp, .ref tm, .int (nI cnt), .int (nI stp), .int z], cin g tl 4 laws, cin g tf 6 fogs, cin g ta 6 arms, cin g tk 8 kinds, cin g tg 8 faiths, cin g tp 8 places, cin g tm 8 moved, ckd g ak 6 (kdf k0 k1 k2 k3 k4 k5), cob k0 4 [], cob k1 2 [], cob k2 5 [], cob k3 6 [], cob k4 9 [], cob k5 1 []]) := by
  refine mtR.of (cc := cX10_of) (nL := 3) (ret := (some .int)) (own := RX10) (by decide +kernel) rfl rfl (Nat.le_of_ble_eq_true rfl) (fun p e s m below meth c hf hr hlk _ hk hst hw ls hl => ?_)
  have hx := hf.1
  have hb := hf.2.1
  have hts := hf.2.2.2.2
  have hl : lv_has ls 3 [(0, .ref lh), (1, .int goer), (2, .int what)] := hl
  have hinX10 : ∀ w ∈ u_ws RX10 TX10 13, w ∈ wsX10_of := fun w h => List.mem_cons_of_mem _ (List.mem_append_left _ (List.mem_append_right _ h))
  have w_0 : Cond.fieldLink RX10 36 "LightMan" "now" "LLightMan$Tunnel;" ∈ wsX10_of := List.mem_of_getElem? (i := 1) rfl
  have hinX8 : ∀ w ∈ u_ws RX8 TX8 11, w ∈ wsX10_of := fun w h => List.mem_cons_of_mem _ (List.mem_append_right _ h)
  have w_1 : Cond.fieldLink RX10 138 "LightMan$Tunnel" "kinds" "[I" ∈ wsX10_of := List.mem_of_getElem? (i := 2) rfl
  have w_2 : Cond.fieldLink RX10 140 "LightMan$Tunnel" "faiths" "[I" ∈ wsX10_of := List.mem_of_getElem? (i := 3) rfl
  have w_3 : Cond.fieldLink RX10 143 "LightMan$Tunnel" "places" "[I" ∈ wsX10_of := List.mem_of_getElem? (i := 4) rfl
  have w_4 : Cond.fieldLink RX10 146 "LightMan$Tunnel" "moved" "[I" ∈ wsX10_of := List.mem_of_getElem? (i := 5) rfl
  refine lv_aload_n hx hb dX10_of_0 rfl (lv_at hl 0 rfl) ?_
  refine rg hf hk hw hinX10 0 rfl rfl 1 (by decide) w_0 rfl dX10_of_1 ?_
  refine lv_iload_n hx hb dX10_of_4 rfl (lv_at hl 1 rfl) ?_
  refine mcV hf hk hst hw (c_X8_has l g t tl tf ta tk tg tp tm cnt stp z ak goer) (cwV 1 hts gX10_of_X8_has rfl rfl rfl hdV_X8_has ⟨Nat.le_of_ble_eq_true rfl, Nat.le_of_ble_eq_true rfl⟩) [1] rfl rfl 1 rfl rfl rfl hl.1 rfl (Nat.le_of_ble_eq_true rfl) dX10_of_5 ⟨Nat.zero_le _, Nat.zero_le _⟩ (W' := [cob lh 10 [.ref ak, .ref t, .ref yt, .ref xt, .int isk, .ref ltp, .ref lrw, .int (nI rc), .ref lac, .ref lsh, .ref lhh, .ref lhg, .ref lhr], cob t 8 [.ref ak, .ref tl, .ref tf, .ref ta, .ref tk, .ref tg, .ref tp, .ref tm, .int (nI cnt), .int (nI stp), .int z], cin g tl 4 laws, cin g tf 6 fogs, cin g ta 6 arms, cin g tk 8 kinds, cin g tg 8 faiths, cin g tp 8 places, cin g tm 8 moved, ckd g ak 6 (kdf k0 k1 k2 k3 k4 k5), cob k0 4 [], cob k1 2 [], cob k2 5 [], cob k3 6 [], cob k4 9 [], cob k5 1 []]) rfl (fun H locs hw => ?_)
  refine lv_if_ne (tgt := 13) hx hb dX10_of_8 (by decide) (fun c_1 => ?_) (fun c_1 => ?_)
  · have hg := has_n hc8 c_1
    have hg2 := hg.2
    refine lv_iload_n hx hb dX10_of_13 rfl (lv_at hl 2 rfl) ?_
    by_cases c_3 : what = 0
    · refine lv_tableIn (off := 34) (tgt := 48) hx hb dX10_of_14 (by rw [c_3]; decide) (by rw [c_3]; decide) (by rw [c_3]; rfl) (by decide) ?_
      refine lv_aload_n hx hb dX10_of_48 rfl (lv_at hl 0 rfl) ?_
      refine rg hf hk hw hinX10 0 rfl rfl 1 (by decide) w_0 rfl dX10_of_49 ?_
      refine rg hf hk hw hinX8 1 rfl rfl 4 (by decide) w_1 rfl dX10_of_52 ?_
      refine lv_iload_n hx hb dX10_of_55 rfl (lv_at hl 1 rfl) ?_
      refine lv_tope (y := nI (ix goer)) hg.1 ?_
      refine rij hf hk hw 5 rfl (j := ix goer) (vp_in_nI (by omega) (by omega)) (nI_clamp (by omega)) dX10_of_56 ?_
      exact rE_i hf hr hlk hw ⟨congrArg some (by simp only [f_X10_of, if_neg c_1, if_pos c_3]), rfl⟩ (show ([lh, t, tl, tf, ta, tk, tg, tp, tm, ak, k0, k1, k2, k3, k4, k5] : List Nat) = [lh, t, tl, tf, ta, tk, tg, tp, tm, ak, k0, k1, k2, k3, k4, k5] from rfl) dX10_of_57
    by_cases c_4 : what = 1
    · refine lv_tableIn (off := 44) (tgt := 58) hx hb dX10_of_14 (by rw [c_4]; decide) (by rw [c_4]; decide) (by rw [c_4]; rfl) (by decide) ?_
      refine lv_aload_n hx hb dX10_of_58 rfl (lv_at hl 0 rfl) ?_
      refine rg hf hk hw hinX10 0 rfl rfl 1 (by decide) w_0 rfl dX10_of_59 ?_
      refine rg hf hk hw hinX8 1 rfl rfl 5 (by decide) w_2 rfl dX10_of_62 ?_
      refine lv_iload_n hx hb dX10_of_65 rfl (lv_at hl 1 rfl) ?_
      refine lv_tope (y := nI (ix goer)) hg.1 ?_
      refine rij hf hk hw 6 rfl (j := ix goer) (vp_in_nI (by omega) (by omega)) (nI_clamp (by omega)) dX10_of_66 ?_
      exact rE_i hf hr hlk hw ⟨congrArg some (by simp only [f_X10_of, if_neg c_1, if_neg c_3, if_pos c_4]), rfl⟩ (show ([lh, t, tl, tf, ta, tk, tg, tp, tm, ak, k0, k1, k2, k3, k4, k5] : List Nat) = [lh, t, tl, tf, ta, tk, tg, tp, tm, ak, k0, k1, k2, k3, k4, k5] from rfl) dX10_of_67
    by_cases c_5 : what = 2
    · refine lv_tableIn (off := 54) (tgt := 68) hx hb dX10_of_14 (by rw [c_5]; decide) (by rw [c_5]; decide) (by rw [c_5]; rfl) (by decide) ?_
      refine lv_aload_n hx hb dX10_of_68 rfl (lv_at hl 0 rfl) ?_
      refine rg hf hk hw hinX10 0 rfl rfl 1 (by decide) w_0 rfl dX10_of_69 ?_
      refine rg hf hk hw hinX8 1 rfl rfl 6 (by decide) w_3 rfl dX10_of_72 ?_
      refine lv_iload_n hx hb dX10_of_75 rfl (lv_at hl 1 rfl) ?_
      refine lv_tope (y := nI (ix goer)) hg.1 ?_
      refine rij hf hk hw 7 rfl (j := ix goer) (vp_in_nI (by omega) (by omega)) (nI_clamp (by omega)) dX10_of_76 ?_
      exact rE_i hf hr hlk hw ⟨congrArg some (by simp only [f_X10_of, if_neg c_1, if_neg c_3, if_neg c_4, if_pos c_5]), rfl⟩ (show ([lh, t, tl, tf, ta, tk, tg, tp, tm, ak, k0, k1, k2, k3, k4, k5] : List Nat) = [lh, t, tl, tf, ta, tk, tg, tp, tm, ak, k0, k1, k2, k3, k4, k5] from rfl) dX10_of_77
    by_cases c_6 : what = 3
    · refine lv_tableIn (off := 64) (tgt := 78) hx hb dX10_of_14 (by rw [c_6]; decide) (by rw [c_6]; decide) (by rw [c_6]; rfl) (by decide) ?_
      refine lv_aload_n hx hb dX10_of_78 rfl (lv_at hl 0 rfl) ?_
      refine rg hf hk hw hinX10 0 rfl rfl 1 (by decide) w_0 rfl dX10_of_79 ?_
      refine rg hf hk hw hinX8 1 rfl rfl 7 (by decide) w_4 rfl dX10_of_82 ?_
      refine lv_iload_n hx hb dX10_of_85 rfl (lv_at hl 1 rfl) ?_
      refine lv_tope (y := nI (ix goer)) hg.1 ?_
      refine rij hf hk hw 8 rfl (j := ix goer) (vp_in_nI (by omega) (by omega)) (nI_clamp (by omega)) dX10_of_86 ?_
      exact rE_i hf hr hlk hw ⟨congrArg some (by simp only [f_X10_of, if_neg c_1, if_neg c_3, if_neg c_4, if_neg c_5, if_pos c_6]), rfl⟩ (show ([lh, t, tl, tf, ta, tk, tg, tp, tm, ak, k0, k1, k2, k3, k4, k5] : List Nat) = [lh, t, tl, tf, ta, tk, tg, tp, tm, ak, k0, k1, k2, k3, k4, k5] from rfl) dX10_of_87
    by_cases c_7 : what = 4
    · refine lv_tableIn (off := 74) (tgt := 88) hx hb dX10_of_14 (by rw [c_7]; decide) (by rw [c_7]; decide) (by rw [c_7]; rfl) (by decide) ?_
      refine lv_aload_n hx hb dX10_of_88 rfl (lv_at hl 0 rfl) ?_
      refine rg hf hk hw hinX10 0 rfl rfl 1 (by decide) w_0 rfl dX10_of_89 ?_
      refine lv_iload_n hx hb dX10_of_92 rfl (lv_at hl 1 rfl) ?_
      refine lv_tope (y := nI (ix goer)) hg.1 ?_
      refine mcV hf hk hst hw (c_X8_seesNow l g t tl tf ta tk tg tp tm laws fogs arms kinds faiths places moved cnt stp z ak k0 k1 k2 k3 k4 k5 (ix goer) (by omega) (by omega) (hkd _ hg2)) (cwV 1 hts gX10_of_X8_seesNow rfl rfl rfl hdV_X8_seesNow ⟨Nat.le_of_ble_eq_true rfl, Nat.le_of_ble_eq_true rfl⟩) [1, 2, 3, 4, 5, 6, 7, 8, 9, 10, 11, 12, 13, 14, 15] rfl rfl 1 rfl rfl rfl hl.1 rfl (Nat.le_of_ble_eq_true rfl) dX10_of_93 ⟨Nat.zero_le _, Nat.zero_le _⟩ (W' := [cob lh 10 [.ref ak, .ref t, .ref yt, .ref xt, .int isk, .ref ltp, .ref lrw, .int (nI rc), .ref lac, .ref lsh, .ref lhh, .ref lhg, .ref lhr], cob t 8 [.ref ak, .ref tl, .ref tf, .ref ta, .ref tk, .ref tg, .ref tp, .ref tm, .int (nI cnt), .int (nI stp), .int z], cin g tl 4 laws, cin g tf 6 fogs, cin g ta 6 arms, cin g tk 8 kinds, cin g tg 8 faiths, cin g tp 8 places, cin g tm 8 moved, ckd g ak 6 (kdf k0 k1 k2 k3 k4 k5), cob k0 4 [], cob k1 2 [], cob k2 5 [], cob k3 6 [], cob k4 9 [], cob k5 1 []]) rfl (fun H locs hw => ?_)
      refine lv_if_eq (tgt := 103) hx hb dX10_of_96 (by decide) (fun c_8 => ?_) (fun c_8 => ?_)
      · refine lv_iconst (v := 0) hx hb dX10_of_103 (by decide) ?_
        exact rE_i hf hr hlk hw ⟨congrArg some (by simp only [f_X10_of, if_neg c_1, if_neg c_3, if_neg c_4, if_neg c_5, if_neg c_6, if_pos c_7, if_pos c_8]), rfl⟩ (show ([lh, t, tl, tf, ta, tk, tg, tp, tm, ak, k0, k1, k2, k3, k4, k5] : List Nat) = [lh, t, tl, tf, ta, tk, tg, tp, tm, ak, k0, k1, k2, k3, k4, k5] from rfl) dX10_of_104
      · refine lv_iconst (v := 1) hx hb dX10_of_99 (by decide) ?_
        refine lv_goto (tgt := 104) hx hb dX10_of_100 (by decide) ?_
        exact rE_i hf hr hlk hw ⟨congrArg some (by simp only [f_X10_of, if_neg c_1, if_neg c_3, if_neg c_4, if_neg c_5, if_neg c_6, if_pos c_7, if_neg c_8]), rfl⟩ (show ([lh, t, tl, tf, ta, tk, tg, tp, tm, ak, k0, k1, k2, k3, k4, k5] : List Nat) = [lh, t, tl, tf, ta, tk, tg, tp, tm, ak, k0, k1, k2, k3, k4, k5] from rfl) dX10_of_104
    refine lv_tableOut (tgt := 105) hx hb dX10_of_14 (sw_o2 0 4 [0, 1, 2, 3, 4] (by decide) (by decide) (by simp only [List.mem_cons, List.not_mem_nil, or_false, not_or]; exact ⟨c_3, c_4, c_5, c_6, c_7⟩)) (by decide) ?_
    refine lv_iconst (v := (-1)) hx hb dX10_of_105 (by decide) ?_
    exact rE_i hf hr hlk hw ⟨congrArg some (by simp only [f_X10_of, if_neg c_1, if_neg c_3, if_neg c_4, if_neg c_5, if_neg c_6, if_neg c_7]), rfl⟩ (show ([lh, t, tl, tf, ta, tk, tg, tp, tm, ak, k0, k1, k2, k3, k4, k5] : List Nat) = [lh, t, tl, tf, ta, tk, tg, tp, tm, ak, k0, k1, k2, k3, k4, k5] from rfl) dX10_of_106
  · refine lv_iconst (v := (-1)) hx hb dX10_of_11 (by decide) ?_
    exact rE_i hf hr hlk hw ⟨congrArg some (by simp only [f_X10_of, if_pos c_1]), rfl⟩ (show ([lh, t, tl, tf, ta, tk, tg, tp, tm, ak, k0, k1, k2, k3, k4, k5] : List Nat) = [lh, t, tl, tf, ta, tk, tg, tp, tm, ak, k0, k1, k2, k3, k4, k5] from rfl) dX10_of_12
def f_X10_mind (kinds : Nat → Int32) (cnt : Nat) (goer : Int32) (kind : Int32) : Int32 := if (f_X8_has cnt goer) = 0 then (-1) else (if (f_X10_isOutside kind 0 5) = 0 then (kinds (ix goer)) else (-1))
def f_X10_mind_w1 (kinds : Nat → Int32) (cnt : Nat) (goer : Int32) (kind : Int32) : Nat → Int32 := if (f_X8_has cnt goer) = 0 then kinds else (if (f_X10_isOutside kind 0 5) = 0 then (upd kinds (ix goer) kind) else kinds)
abbrev rmX10_mind : Room := { frames := 2, cells := 0, slots := 0, locals := 42 }
set_option maxHeartbeats 4000000 in
set_option maxRecDepth 100000 in
theorem c_X10_mind (l : Launch) (g : GG) (lh : Nat) (t : Nat) (tl : Nat) (tf : Nat) (ta : Nat) (tk : Nat) (tg : Nat) (tp : Nat) (tm : Nat) (kinds : Nat → Int32) (cnt : Nat) (stp : Nat) (z : Int32) (xt : Nat) (yt : Nat) (ak : Nat) (isk : Int32) (ltp : Nat) (lrw : Nat) (rc : Nat) (lac : Nat) (lsh : Nat) (lhh : Nat) (lhg : Nat) (lhr : Nat) (goer : Int32) (kind : Int32) (hc8 : cnt ≤ 8) : mtR l g yX10_mind wsX10_mind rmX10_mind [.ref lh, .int goer, .int kind] [cob lh 10 [.ref ak, .ref t, .ref yt, .ref xt, .int isk, .ref ltp, .ref lrw, .int (nI rc), .ref lac, .ref lsh, .ref lhh, .ref lhg, .ref lhr], cob t 8 [.ref ak, .ref tl, .ref tf, .ref ta, .ref tk, .ref tg, .ref tp, .ref tm, .int (nI cnt), .int (nI stp), .int z], cin g tk 8 kinds] (fun rv W => rv = (some (.int (f_X10_mind kinds cnt goer kind))) ∧ W = [cob lh 10 [.ref ak, .ref t, .ref yt, .ref xt, .int isk, .ref ltp, .ref lrw, .int (nI rc), .ref lac, .ref lsh, .ref lhh, .ref lhg, .ref lhr], cob t 8 [.ref ak, .ref tl, .ref tf, .ref ta, .ref tk, .ref tg, .ref tp, .ref tm, .int (nI cnt), .int (nI stp), .int z], cin g tk 8 (f_X10_mind_w1 kinds cnt goer kind)]) := by
  refine mtR.of (cc := cX10_mind) (nL := 4) (ret := (some .int)) (own := RX10) (by decide +kernel) rfl rfl (Nat.le_of_ble_eq_true rfl) (fun p e s m below meth c hf hr hlk _ hk hst hw ls hl => ?_)
  have hx := hf.1
  have hb := hf.2.1
  have hts := hf.2.2.2.2
  have hl : lv_has ls 4 [(0, .ref lh), (1, .int goer), (2, .int kind)] := hl
  have hinX10 : ∀ w ∈ u_ws RX10 TX10 13, w ∈ wsX10_mind := fun w h => List.mem_cons_of_mem _ (List.mem_append_left _ (List.mem_append_right _ h))
  have w_0 : Cond.fieldLink RX10 36 "LightMan" "now" "LLightMan$Tunnel;" ∈ wsX10_mind := List.mem_of_getElem? (i := 1) rfl
  have hinX8 : ∀ w ∈ u_ws RX8 TX8 11, w ∈ wsX10_mind := fun w h => List.mem_cons_of_mem _ (List.mem_append_right _ h)
  have w_1 : Cond.fieldLink RX10 138 "LightMan$Tunnel" "kinds" "[I" ∈ wsX10_mind := List.mem_of_getElem? (i := 2) rfl
  refine lv_aload_n hx hb dX10_mind_0 rfl (lv_at hl 0 rfl) ?_
  refine rg hf hk hw hinX10 0 rfl rfl 1 (by decide) w_0 rfl dX10_mind_1 ?_
  refine lv_iload_n hx hb dX10_mind_4 rfl (lv_at hl 1 rfl) ?_
  refine mcV hf hk hst hw (c_X8_has l g t tl tf ta tk tg tp tm cnt stp z ak goer) (cwV 1 hts gX10_mind_X8_has rfl rfl rfl hdV_X8_has ⟨Nat.le_of_ble_eq_true rfl, Nat.le_of_ble_eq_true rfl⟩) [1] rfl rfl 1 rfl rfl rfl hl.1 rfl (Nat.le_of_ble_eq_true rfl) dX10_mind_5 ⟨Nat.zero_le _, Nat.zero_le _⟩ (W' := [cob lh 10 [.ref ak, .ref t, .ref yt, .ref xt, .int isk, .ref ltp, .ref lrw, .int (nI rc), .ref lac, .ref lsh, .ref lhh, .ref lhg, .ref lhr], cob t 8 [.ref ak, .ref tl, .ref tf, .ref ta, .ref tk, .ref tg, .ref tp, .ref tm, .int (nI cnt), .int (nI stp), .int z], cin g tk 8 kinds]) rfl (fun H locs hw => ?_)
  refine lv_if_eq (tgt := 18) hx hb dX10_mind_8 (by decide) (fun c_1 => ?_) (fun c_1 => ?_)
  · refine lv_iconst (v := (-1)) hx hb dX10_mind_18 (by decide) ?_
    exact rE_i hf hr hlk hw ⟨congrArg some (by simp only [f_X10_mind, if_pos c_1]), by simp only [f_X10_mind_w1, if_pos c_1]⟩ (show ([lh, t, tk] : List Nat) = [lh, t, tk] from rfl) dX10_mind_19
  · have hg := has_n hc8 c_1
    have hg2 := hg.2
    refine lv_iload_n hx hb dX10_mind_11 rfl (lv_at hl 2 rfl) ?_
    refine mcS hf hk hst hw (c_X10_isNoKind l g kind) (va_cwS 1 hts gX10_mind_X10_isNoKind rfl rfl rfl hdS_X10_isNoKind ⟨Nat.le_of_ble_eq_true rfl, Nat.le_of_ble_eq_true rfl⟩) [] rfl rfl rfl hl.1 rfl (Nat.le_of_ble_eq_true rfl) dX10_mind_12 ⟨Nat.zero_le _, Nat.zero_le _⟩ (W' := [cob lh 10 [.ref ak, .ref t, .ref yt, .ref xt, .int isk, .ref ltp, .ref lrw, .int (nI rc), .ref lac, .ref lsh, .ref lhh, .ref lhg, .ref lhr], cob t 8 [.ref ak, .ref tl, .ref tf, .ref ta, .ref tk, .ref tg, .ref tp, .ref tm, .int (nI cnt), .int (nI stp), .int z], cin g tk 8 kinds]) rfl (fun H locs hw => ?_)
    refine lv_if_eq (tgt := 20) hx hb dX10_mind_15 (by decide) (fun c_2 => ?_) (fun c_2 => ?_)
    · refine lv_aload_n hx hb dX10_mind_20 rfl (lv_at hl 0 rfl) ?_
      refine rg hf hk hw hinX10 0 rfl rfl 1 (by decide) w_0 rfl dX10_mind_21 ?_
      refine rg hf hk hw hinX8 1 rfl rfl 4 (by decide) w_1 rfl dX10_mind_24 ?_
      refine lv_iload_n hx hb dX10_mind_27 rfl (lv_at hl 1 rfl) ?_
      refine lv_tope (y := nI (ix goer)) hg.1 ?_
      refine rij hf hk hw 2 rfl (j := ix goer) (vp_in_nI (by omega) (by omega)) (nI_clamp (by omega)) dX10_mind_28 ?_
      refine lv_istore_n (lv' := [(3, .int (kinds (ix goer))), (0, .ref lh), (1, .int goer), (2, .int kind)]) hx hb dX10_mind_29 rfl hl (by decide) rfl (fun ls hl => ?_)
      refine lv_aload_n hx hb dX10_mind_30 rfl (lv_at hl 1 rfl) ?_
      refine rg hf hk hw hinX10 0 rfl rfl 1 (by decide) w_0 rfl dX10_mind_31 ?_
      refine rg hf hk hw hinX8 1 rfl rfl 4 (by decide) w_1 rfl dX10_mind_34 ?_
      refine lv_iload_n hx hb dX10_mind_37 rfl (lv_at hl 2 rfl) ?_
      refine lv_tope (y := nI (ix goer)) hg.1 ?_
      refine lv_iload_n hx hb dX10_mind_38 rfl (lv_at hl 3 rfl) ?_
      refine rsj hf hk hw 2 rfl (j := ix goer) (vp_in_nI (by omega) (by omega)) (nI_clamp (by omega)) dX10_mind_39 (W' := [cob lh 10 [.ref ak, .ref t, .ref yt, .ref xt, .int isk, .ref ltp, .ref lrw, .int (nI rc), .ref lac, .ref lsh, .ref lhh, .ref lhg, .ref lhr], cob t 8 [.ref ak, .ref tl, .ref tf, .ref ta, .ref tk, .ref tg, .ref tp, .ref tm, .int (nI cnt), .int (nI stp), .int z], cin g tk 8 (upd kinds (ix goer) kind)]) rfl (fun H locs hw => ?_)
      refine lv_iload_n hx hb dX10_mind_40 rfl (lv_at hl 0 rfl) ?_
      exact rE_i hf hr hlk hw ⟨congrArg some (by simp only [f_X10_mind, if_neg c_1, if_pos c_2]), by simp only [f_X10_mind_w1, if_neg c_1, if_pos c_2]⟩ (show ([lh, t, tk] : List Nat) = [lh, t, tk] from rfl) dX10_mind_41
    · refine lv_iconst (v := (-1)) hx hb dX10_mind_18 (by decide) ?_
      exact rE_i hf hr hlk hw ⟨congrArg some (by simp only [f_X10_mind, if_neg c_1, if_neg c_2]), by simp only [f_X10_mind_w1, if_neg c_1, if_neg c_2]⟩ (show ([lh, t, tk] : List Nat) = [lh, t, tk] from rfl) dX10_mind_19
def f_X10_trust (faiths : Nat → Int32) (cnt : Nat) (goer : Int32) (v : Int32) : Int32 := if (f_X8_has cnt goer) = 0 then (-1) else (if (f_X10_isOutside v 0 99) = 0 then (faiths (ix goer)) else (-1))
def f_X10_trust_w1 (faiths : Nat → Int32) (cnt : Nat) (goer : Int32) (v : Int32) : Nat → Int32 := if (f_X8_has cnt goer) = 0 then faiths else (if (f_X10_isOutside v 0 99) = 0 then (upd faiths (ix goer) v) else faiths)
abbrev rmX10_trust : Room := { frames := 1, cells := 0, slots := 0, locals := 22 }
set_option maxHeartbeats 4000000 in
set_option maxRecDepth 100000 in
theorem c_X10_trust (l : Launch) (g : GG) (lh : Nat) (t : Nat) (tl : Nat) (tf : Nat) (ta : Nat) (tk : Nat) (tg : Nat) (tp : Nat) (tm : Nat) (faiths : Nat → Int32) (cnt : Nat) (stp : Nat) (z : Int32) (xt : Nat) (yt : Nat) (ak : Nat) (isk : Int32) (ltp : Nat) (lrw : Nat) (rc : Nat) (lac : Nat) (lsh : Nat) (lhh : Nat) (lhg : Nat) (lhr : Nat) (goer : Int32) (v : Int32) (hc8 : cnt ≤ 8) : mtR l g yX10_trust wsX10_trust rmX10_trust [.ref lh, .int goer, .int v] [cob lh 10 [.ref ak, .ref t, .ref yt, .ref xt, .int isk, .ref ltp, .ref lrw, .int (nI rc), .ref lac, .ref lsh, .ref lhh, .ref lhg, .ref lhr], cob t 8 [.ref ak, .ref tl, .ref tf, .ref ta, .ref tk, .ref tg, .ref tp, .ref tm, .int (nI cnt), .int (nI stp), .int z], cin g tg 8 faiths] (fun rv W => rv = (some (.int (f_X10_trust faiths cnt goer v))) ∧ W = [cob lh 10 [.ref ak, .ref t, .ref yt, .ref xt, .int isk, .ref ltp, .ref lrw, .int (nI rc), .ref lac, .ref lsh, .ref lhh, .ref lhg, .ref lhr], cob t 8 [.ref ak, .ref tl, .ref tf, .ref ta, .ref tk, .ref tg, .ref tp, .ref tm, .int (nI cnt), .int (nI stp), .int z], cin g tg 8 (f_X10_trust_w1 faiths cnt goer v)]) := by
  refine mtR.of (cc := cX10_trust) (nL := 4) (ret := (some .int)) (own := RX10) (by decide +kernel) rfl rfl (Nat.le_of_ble_eq_true rfl) (fun p e s m below meth c hf hr hlk _ hk hst hw ls hl => ?_)
  have hx := hf.1
  have hb := hf.2.1
  have hts := hf.2.2.2.2
  have hl : lv_has ls 4 [(0, .ref lh), (1, .int goer), (2, .int v)] := hl
  have hinX10 : ∀ w ∈ u_ws RX10 TX10 13, w ∈ wsX10_trust := fun w h => List.mem_cons_of_mem _ (List.mem_append_left _ (List.mem_append_right _ h))
  have w_0 : Cond.fieldLink RX10 36 "LightMan" "now" "LLightMan$Tunnel;" ∈ wsX10_trust := List.mem_of_getElem? (i := 1) rfl
  have hinX8 : ∀ w ∈ u_ws RX8 TX8 11, w ∈ wsX10_trust := fun w h => List.mem_cons_of_mem _ (List.mem_append_right _ h)
  have w_1 : Cond.fieldLink RX10 140 "LightMan$Tunnel" "faiths" "[I" ∈ wsX10_trust := List.mem_of_getElem? (i := 2) rfl
  refine lv_aload_n hx hb dX10_trust_0 rfl (lv_at hl 0 rfl) ?_
  refine rg hf hk hw hinX10 0 rfl rfl 1 (by decide) w_0 rfl dX10_trust_1 ?_
  refine lv_iload_n hx hb dX10_trust_4 rfl (lv_at hl 1 rfl) ?_
  refine mcV hf hk hst hw (c_X8_has l g t tl tf ta tk tg tp tm cnt stp z ak goer) (cwV 1 hts gX10_trust_X8_has rfl rfl rfl hdV_X8_has ⟨Nat.le_of_ble_eq_true rfl, Nat.le_of_ble_eq_true rfl⟩) [1] rfl rfl 1 rfl rfl rfl hl.1 rfl (Nat.le_of_ble_eq_true rfl) dX10_trust_5 ⟨Nat.zero_le _, Nat.zero_le _⟩ (W' := [cob lh 10 [.ref ak, .ref t, .ref yt, .ref xt, .int isk, .ref ltp, .ref lrw, .int (nI rc), .ref lac, .ref lsh, .ref lhh, .ref lhg, .ref lhr], cob t 8 [.ref ak, .ref tl, .ref tf, .ref ta, .ref tk, .ref tg, .ref tp, .ref tm, .int (nI cnt), .int (nI stp), .int z], cin g tg 8 faiths]) rfl (fun H locs hw => ?_)
  refine lv_if_eq (tgt := 21) hx hb dX10_trust_8 (by decide) (fun c_1 => ?_) (fun c_1 => ?_)
  · refine lv_iconst (v := (-1)) hx hb dX10_trust_21 (by decide) ?_
    exact rE_i hf hr hlk hw ⟨congrArg some (by simp only [f_X10_trust, if_pos c_1]), by simp only [f_X10_trust_w1, if_pos c_1]⟩ (show ([lh, t, tg] : List Nat) = [lh, t, tg] from rfl) dX10_trust_22
  · have hg := has_n hc8 c_1
    have hg2 := hg.2
    refine lv_iload_n hx hb dX10_trust_11 rfl (lv_at hl 2 rfl) ?_
    refine lv_iconst (v := 0) hx hb dX10_trust_12 (by decide) ?_
    refine lv_bipush (v := 99) hx hb dX10_trust_13 (by decide) ?_
    refine mcS hf hk hst hw (c_X10_isOutside l g v 0 99) (va_cwS 3 hts gX10_trust_X10_isOutside rfl rfl rfl hdS_X10_isOutside ⟨Nat.le_of_ble_eq_true rfl, Nat.le_of_ble_eq_true rfl⟩) [] rfl rfl rfl hl.1 rfl (Nat.le_of_ble_eq_true rfl) dX10_trust_15 ⟨Nat.zero_le _, Nat.zero_le _⟩ (W' := [cob lh 10 [.ref ak, .ref t, .ref yt, .ref xt, .int isk, .ref ltp, .ref lrw, .int (nI rc), .ref lac, .ref lsh, .ref lhh, .ref lhg, .ref lhr], cob t 8 [.ref ak, .ref tl, .ref tf, .ref ta, .ref tk, .ref tg, .ref tp, .ref tm, .int (nI cnt), .int (nI stp), .int z], cin g tg 8 faiths]) rfl (fun H locs hw => ?_)
    refine lv_if_eq (tgt := 23) hx hb dX10_trust_18 (by decide) (fun c_2 => ?_) (fun c_2 => ?_)
    · refine lv_aload_n hx hb dX10_trust_23 rfl (lv_at hl 0 rfl) ?_
      refine rg hf hk hw hinX10 0 rfl rfl 1 (by decide) w_0 rfl dX10_trust_24 ?_
      refine rg hf hk hw hinX8 1 rfl rfl 5 (by decide) w_1 rfl dX10_trust_27 ?_
      refine lv_iload_n hx hb dX10_trust_30 rfl (lv_at hl 1 rfl) ?_
      refine lv_tope (y := nI (ix goer)) hg.1 ?_
      refine rij hf hk hw 2 rfl (j := ix goer) (vp_in_nI (by omega) (by omega)) (nI_clamp (by omega)) dX10_trust_31 ?_
      refine lv_istore_n (lv' := [(3, .int (faiths (ix goer))), (0, .ref lh), (1, .int goer), (2, .int v)]) hx hb dX10_trust_32 rfl hl (by decide) rfl (fun ls hl => ?_)
      refine lv_aload_n hx hb dX10_trust_33 rfl (lv_at hl 1 rfl) ?_
      refine rg hf hk hw hinX10 0 rfl rfl 1 (by decide) w_0 rfl dX10_trust_34 ?_
      refine rg hf hk hw hinX8 1 rfl rfl 5 (by decide) w_1 rfl dX10_trust_37 ?_
      refine lv_iload_n hx hb dX10_trust_40 rfl (lv_at hl 2 rfl) ?_
      refine lv_tope (y := nI (ix goer)) hg.1 ?_
      refine lv_iload_n hx hb dX10_trust_41 rfl (lv_at hl 3 rfl) ?_
      refine rsj hf hk hw 2 rfl (j := ix goer) (vp_in_nI (by omega) (by omega)) (nI_clamp (by omega)) dX10_trust_42 (W' := [cob lh 10 [.ref ak, .ref t, .ref yt, .ref xt, .int isk, .ref ltp, .ref lrw, .int (nI rc), .ref lac, .ref lsh, .ref lhh, .ref lhg, .ref lhr], cob t 8 [.ref ak, .ref tl, .ref tf, .ref ta, .ref tk, .ref tg, .ref tp, .ref tm, .int (nI cnt), .int (nI stp), .int z], cin g tg 8 (upd faiths (ix goer) v)]) rfl (fun H locs hw => ?_)
      refine lv_iload_n hx hb dX10_trust_43 rfl (lv_at hl 0 rfl) ?_
      exact rE_i hf hr hlk hw ⟨congrArg some (by simp only [f_X10_trust, if_neg c_1, if_pos c_2]), by simp only [f_X10_trust_w1, if_neg c_1, if_pos c_2]⟩ (show ([lh, t, tg] : List Nat) = [lh, t, tg] from rfl) dX10_trust_44
    · refine lv_iconst (v := (-1)) hx hb dX10_trust_21 (by decide) ?_
      exact rE_i hf hr hlk hw ⟨congrArg some (by simp only [f_X10_trust, if_neg c_1, if_neg c_2]), by simp only [f_X10_trust_w1, if_neg c_1, if_neg c_2]⟩ (show ([lh, t, tg] : List Nat) = [lh, t, tg] from rfl) dX10_trust_22
def f_X10_bring (places : Nat → Int32) (cnt : Nat) (goer : Int32) (place : Int32) : Int32 := if (f_X8_has cnt goer) = 0 then (-1) else (if (f_X10_isOutside place 0 12) = 0 then (places (ix goer)) else (-1))
def f_X10_bring_w1 (places : Nat → Int32) (cnt : Nat) (goer : Int32) (place : Int32) : Nat → Int32 := if (f_X8_has cnt goer) = 0 then places else (if (f_X10_isOutside place 0 12) = 0 then (upd places (ix goer) place) else places)
abbrev rmX10_bring : Room := { frames := 1, cells := 0, slots := 0, locals := 22 }
set_option maxHeartbeats 4000000 in
set_option maxRecDepth 100000 in
theorem c_X10_bring (l : Launch) (g : GG) (lh : Nat) (t : Nat) (tl : Nat) (tf : Nat) (ta : Nat) (tk : Nat) (tg : Nat) (tp : Nat) (tm : Nat) (places : Nat → Int32) (cnt : Nat) (stp : Nat) (z : Int32) (xt : Nat) (yt : Nat) (ak : Nat) (isk : Int32) (ltp : Nat) (lrw : Nat) (rc : Nat) (lac : Nat) (lsh : Nat) (lhh : Nat) (lhg : Nat) (lhr : Nat) (goer : Int32) (place : Int32) (hc8 : cnt ≤ 8) : mtR l g yX10_bring wsX10_bring rmX10_bring [.ref lh, .int goer, .int place] [cob lh 10 [.ref ak, .ref t, .ref yt, .ref xt, .int isk, .ref ltp, .ref lrw, .int (nI rc), .ref lac, .ref lsh, .ref lhh, .ref lhg, .ref lhr], cob t 8 [.ref ak, .ref tl, .ref tf, .ref ta, .ref tk, .ref tg, .ref tp, .ref tm, .int (nI cnt), .int (nI stp), .int z], cin g tp 8 places] (fun rv W => rv = (some (.int (f_X10_bring places cnt goer place))) ∧ W = [cob lh 10 [.ref ak, .ref t, .ref yt, .ref xt, .int isk, .ref ltp, .ref lrw, .int (nI rc), .ref lac, .ref lsh, .ref lhh, .ref lhg, .ref lhr], cob t 8 [.ref ak, .ref tl, .ref tf, .ref ta, .ref tk, .ref tg, .ref tp, .ref tm, .int (nI cnt), .int (nI stp), .int z], cin g tp 8 (f_X10_bring_w1 places cnt goer place)]) := by
  refine mtR.of (cc := cX10_bring) (nL := 4) (ret := (some .int)) (own := RX10) (by decide +kernel) rfl rfl (Nat.le_of_ble_eq_true rfl) (fun p e s m below meth c hf hr hlk _ hk hst hw ls hl => ?_)
  have hx := hf.1
  have hb := hf.2.1
  have hts := hf.2.2.2.2
  have hl : lv_has ls 4 [(0, .ref lh), (1, .int goer), (2, .int place)] := hl
  have hinX10 : ∀ w ∈ u_ws RX10 TX10 13, w ∈ wsX10_bring := fun w h => List.mem_cons_of_mem _ (List.mem_append_left _ (List.mem_append_right _ h))
  have w_0 : Cond.fieldLink RX10 36 "LightMan" "now" "LLightMan$Tunnel;" ∈ wsX10_bring := List.mem_of_getElem? (i := 1) rfl
  have hinX8 : ∀ w ∈ u_ws RX8 TX8 11, w ∈ wsX10_bring := fun w h => List.mem_cons_of_mem _ (List.mem_append_right _ h)
  have w_1 : Cond.fieldLink RX10 143 "LightMan$Tunnel" "places" "[I" ∈ wsX10_bring := List.mem_of_getElem? (i := 2) rfl
  refine lv_aload_n hx hb dX10_bring_0 rfl (lv_at hl 0 rfl) ?_
  refine rg hf hk hw hinX10 0 rfl rfl 1 (by decide) w_0 rfl dX10_bring_1 ?_
  refine lv_iload_n hx hb dX10_bring_4 rfl (lv_at hl 1 rfl) ?_
  refine mcV hf hk hst hw (c_X8_has l g t tl tf ta tk tg tp tm cnt stp z ak goer) (cwV 1 hts gX10_bring_X8_has rfl rfl rfl hdV_X8_has ⟨Nat.le_of_ble_eq_true rfl, Nat.le_of_ble_eq_true rfl⟩) [1] rfl rfl 1 rfl rfl rfl hl.1 rfl (Nat.le_of_ble_eq_true rfl) dX10_bring_5 ⟨Nat.zero_le _, Nat.zero_le _⟩ (W' := [cob lh 10 [.ref ak, .ref t, .ref yt, .ref xt, .int isk, .ref ltp, .ref lrw, .int (nI rc), .ref lac, .ref lsh, .ref lhh, .ref lhg, .ref lhr], cob t 8 [.ref ak, .ref tl, .ref tf, .ref ta, .ref tk, .ref tg, .ref tp, .ref tm, .int (nI cnt), .int (nI stp), .int z], cin g tp 8 places]) rfl (fun H locs hw => ?_)
  refine lv_if_eq (tgt := 21) hx hb dX10_bring_8 (by decide) (fun c_1 => ?_) (fun c_1 => ?_)
  · refine lv_iconst (v := (-1)) hx hb dX10_bring_21 (by decide) ?_
    exact rE_i hf hr hlk hw ⟨congrArg some (by simp only [f_X10_bring, if_pos c_1]), by simp only [f_X10_bring_w1, if_pos c_1]⟩ (show ([lh, t, tp] : List Nat) = [lh, t, tp] from rfl) dX10_bring_22
  · have hg := has_n hc8 c_1
    have hg2 := hg.2
    refine lv_iload_n hx hb dX10_bring_11 rfl (lv_at hl 2 rfl) ?_
    refine lv_iconst (v := 0) hx hb dX10_bring_12 (by decide) ?_
    refine lv_bipush (v := 12) hx hb dX10_bring_13 (by decide) ?_
    refine mcS hf hk hst hw (c_X10_isOutside l g place 0 12) (va_cwS 3 hts gX10_bring_X10_isOutside rfl rfl rfl hdS_X10_isOutside ⟨Nat.le_of_ble_eq_true rfl, Nat.le_of_ble_eq_true rfl⟩) [] rfl rfl rfl hl.1 rfl (Nat.le_of_ble_eq_true rfl) dX10_bring_15 ⟨Nat.zero_le _, Nat.zero_le _⟩ (W' := [cob lh 10 [.ref ak, .ref t, .ref yt, .ref xt, .int isk, .ref ltp, .ref lrw, .int (nI rc), .ref lac, .ref lsh, .ref lhh, .ref lhg, .ref lhr], cob t 8 [.ref ak, .ref tl, .ref tf, .ref ta, .ref tk, .ref tg, .ref tp, .ref tm, .int (nI cnt), .int (nI stp), .int z], cin g tp 8 places]) rfl (fun H locs hw => ?_)
    refine lv_if_eq (tgt := 23) hx hb dX10_bring_18 (by decide) (fun c_2 => ?_) (fun c_2 => ?_)
    · refine lv_aload_n hx hb dX10_bring_23 rfl (lv_at hl 0 rfl) ?_
      refine rg hf hk hw hinX10 0 rfl rfl 1 (by decide) w_0 rfl dX10_bring_24 ?_
      refine rg hf hk hw hinX8 1 rfl rfl 6 (by decide) w_1 rfl dX10_bring_27 ?_
      refine lv_iload_n hx hb dX10_bring_30 rfl (lv_at hl 1 rfl) ?_
      refine lv_tope (y := nI (ix goer)) hg.1 ?_
      refine rij hf hk hw 2 rfl (j := ix goer) (vp_in_nI (by omega) (by omega)) (nI_clamp (by omega)) dX10_bring_31 ?_
      refine lv_istore_n (lv' := [(3, .int (places (ix goer))), (0, .ref lh), (1, .int goer), (2, .int place)]) hx hb dX10_bring_32 rfl hl (by decide) rfl (fun ls hl => ?_)
      refine lv_aload_n hx hb dX10_bring_33 rfl (lv_at hl 1 rfl) ?_
      refine rg hf hk hw hinX10 0 rfl rfl 1 (by decide) w_0 rfl dX10_bring_34 ?_
      refine rg hf hk hw hinX8 1 rfl rfl 6 (by decide) w_1 rfl dX10_bring_37 ?_
      refine lv_iload_n hx hb dX10_bring_40 rfl (lv_at hl 2 rfl) ?_
      refine lv_tope (y := nI (ix goer)) hg.1 ?_
      refine lv_iload_n hx hb dX10_bring_41 rfl (lv_at hl 3 rfl) ?_
      refine rsj hf hk hw 2 rfl (j := ix goer) (vp_in_nI (by omega) (by omega)) (nI_clamp (by omega)) dX10_bring_42 (W' := [cob lh 10 [.ref ak, .ref t, .ref yt, .ref xt, .int isk, .ref ltp, .ref lrw, .int (nI rc), .ref lac, .ref lsh, .ref lhh, .ref lhg, .ref lhr], cob t 8 [.ref ak, .ref tl, .ref tf, .ref ta, .ref tk, .ref tg, .ref tp, .ref tm, .int (nI cnt), .int (nI stp), .int z], cin g tp 8 (upd places (ix goer) place)]) rfl (fun H locs hw => ?_)
      refine lv_iload_n hx hb dX10_bring_43 rfl (lv_at hl 0 rfl) ?_
      exact rE_i hf hr hlk hw ⟨congrArg some (by simp only [f_X10_bring, if_neg c_1, if_pos c_2]), by simp only [f_X10_bring_w1, if_neg c_1, if_pos c_2]⟩ (show ([lh, t, tp] : List Nat) = [lh, t, tp] from rfl) dX10_bring_44
    · refine lv_iconst (v := (-1)) hx hb dX10_bring_21 (by decide) ?_
      exact rE_i hf hr hlk hw ⟨congrArg some (by simp only [f_X10_bring, if_neg c_1, if_neg c_2]), by simp only [f_X10_bring_w1, if_neg c_1, if_neg c_2]⟩ (show ([lh, t, tp] : List Nat) = [lh, t, tp] from rfl) dX10_bring_22
abbrev rmX10_does : Room := { frames := 4, cells := 0, slots := 0, locals := 92 }
set_option maxHeartbeats 4000000 in
set_option maxRecDepth 100000 in
theorem c_X10_does (l : Launch) (g : GG) (lh : Nat) (t : Nat) (tl : Nat) (tf : Nat) (ta : Nat) (tk : Nat) (tg : Nat) (tp : Nat) (tm : Nat) (laws : Nat → Int32) (fogs : Nat → Int32) (arms : Nat → Int32) (kinds : Nat → Int32) (faiths : Nat → Int32) (places : Nat → Int32) (moved : Nat → Int32) (cnt : Nat) (stp : Nat) (z : Int32) (xt : Nat) (yt : Nat) (ak : Nat) (k0 : Nat) (k1 : Nat) (k2 : Nat) (k3 : Nat) (k4 : Nat) (k5 : Nat) (isk : Int32) (ltp : Nat) (lrw : Nat) (rc : Nat) (lac : Nat) (lsh : Nat) (lhh : Nat) (lhg : Nat) (lhr : Nat) (goer : Int32) (what : Int32) (hc8 : cnt ≤ 8) (hsp : stp < 2 ^ 30) (hkd : ∀ j, j < cnt → isK (kinds j)) : mtR l g yX10_does wsX10_does rmX10_does [.ref lh, .int goer, .int what] [cob lh 10 [.ref ak, .ref t, .ref yt, .ref xt, .int isk, .ref ltp, .ref lrw, .int (nI rc), .ref lac, .ref lsh, .ref lhh, .ref lhg, .ref lhr], cob t 8 [.ref ak, .ref tl, .ref tf, .ref ta, .ref tk, .ref tg, .ref tp, .ref tm, .int (nI cnt), .int (nI stp), .int z], cin g tl 4 laws, cin g tf 6 fogs, cin g ta 6 arms, cin g tk 8 kinds, cin g tg 8 faiths, cin g tp 8 places, cin g tm 8 moved, ckd g ak 6 (kdf k0 k1 k2 k3 k4 k5), cob k0 4 [], cob k1 2 [], cob k2 5 [], cob k3 6 [], cob k4 9 [], cob k5 1 []] (fun rv W => rv = (some (.int (doesF cnt (kinds (ix goer)) (fogs (stp % 6)) (arms (stp % 6)) (laws 0) (nI stp) (places (ix goer)) goer what))) ∧ W = [cob lh 10 [.ref ak, .ref t, .ref yt, .ref xt, .int isk, .ref ltp, .ref lrw, .int (nI rc), .ref lac, .ref lsh, .ref lhh, .ref lhg, .ref lhr], cob t 8 [.ref ak, .ref tl, .ref tf, .ref ta, .ref tk, .ref tg, .ref tp, .ref tm, .int (nI cnt), .int (nI stp), .int z], cin g tl 4 laws, cin g tf 6 fogs, cin g ta 6 arms, cin g tk 8 kinds, cin g tg 8 faiths, cin g tp 8 places, cin g tm 8 moved, ckd g ak 6 (kdf k0 k1 k2 k3 k4 k5), cob k0 4 [], cob k1 2 [], cob k2 5 [], cob k3 6 [], cob k4 9 [], cob k5 1 []]) := by
  refine mtR.of (cc := cX10_does) (nL := 8) (ret := (some .int)) (own := RX10) (by decide +kernel) rfl rfl (Nat.le_of_ble_eq_true rfl) (fun p e s m below meth c hf hr hlk _ hk hst hw ls hl => ?_)
  have hx := hf.1
  have hb := hf.2.1
  have hts := hf.2.2.2.2
  have hl : lv_has ls 8 [(0, .ref lh), (1, .int goer), (2, .int what)] := hl
  have h6 : stp % 6 < 6 := Nat.mod_lt _ (by decide)
  have hinX10 : ∀ w ∈ u_ws RX10 TX10 13, w ∈ wsX10_does := fun w h => List.mem_cons_of_mem _ (List.mem_append_left _ (List.mem_append_right _ h))
  have w_0 : Cond.fieldLink RX10 36 "LightMan" "now" "LLightMan$Tunnel;" ∈ wsX10_does := List.mem_of_getElem? (i := 1) rfl
  have hinX8 : ∀ w ∈ u_ws RX8 TX8 11, w ∈ wsX10_does := fun w h => List.mem_cons_of_mem _ (List.mem_append_right _ h)
  have w_1 : Cond.fieldLink RX10 155 "LightMan$Tunnel" "stepNumber" "I" ∈ wsX10_does := List.mem_of_getElem? (i := 2) rfl
  have w_2 : Cond.fieldLink RX10 122 "LightMan$Tunnel" "fogs" "[I" ∈ wsX10_does := List.mem_of_getElem? (i := 3) rfl
  have w_3 : Cond.fieldLink RX10 125 "LightMan$Tunnel" "arms" "[I" ∈ wsX10_does := List.mem_of_getElem? (i := 4) rfl
  have w_4 : Cond.fieldLink RX10 115 "LightMan$Tunnel" "laws" "[I" ∈ wsX10_does := List.mem_of_getElem? (i := 5) rfl
  have w_5 : Cond.fieldLink RX10 25 "LightMan" "kinds" "[LLightMan$Kind;" ∈ wsX10_does := List.mem_of_getElem? (i := 6) rfl
  have w_6 : Cond.fieldLink RX10 138 "LightMan$Tunnel" "kinds" "[I" ∈ wsX10_does := List.mem_of_getElem? (i := 7) rfl
  have w_7 : Cond.code yX4_sight cX4_sight 4 (some .int) ∈ wsX10_does := List.mem_of_getElem? (i := 37) rfl
  have w_8 : Cond.code yX4_keen cX4_keen 3 (some .int) ∈ wsX10_does := List.mem_of_getElem? (i := 77) rfl
  have w_9 : Cond.code yX4_fears cX4_fears 2 (some .int) ∈ wsX10_does := List.mem_of_getElem? (i := 106) rfl
  have w_10 : Cond.code yX4_pace cX4_pace 3 (some .int) ∈ wsX10_does := List.mem_of_getElem? (i := 146) rfl
  refine lv_aload_n hx hb dX10_does_0 rfl (lv_at hl 0 rfl) ?_
  refine rg hf hk hw hinX10 0 rfl rfl 1 (by decide) w_0 rfl dX10_does_1 ?_
  refine lv_iload_n hx hb dX10_does_4 rfl (lv_at hl 1 rfl) ?_
  refine mcV hf hk hst hw (c_X8_has l g t tl tf ta tk tg tp tm cnt stp z ak goer) (cwV 1 hts gX10_does_X8_has rfl rfl rfl hdV_X8_has ⟨Nat.le_of_ble_eq_true rfl, Nat.le_of_ble_eq_true rfl⟩) [1] rfl rfl 1 rfl rfl rfl hl.1 rfl (Nat.le_of_ble_eq_true rfl) dX10_does_5 ⟨Nat.zero_le _, Nat.zero_le _⟩ (W' := [cob lh 10 [.ref ak, .ref t, .ref yt, .ref xt, .int isk, .ref ltp, .ref lrw, .int (nI rc), .ref lac, .ref lsh, .ref lhh, .ref lhg, .ref lhr], cob t 8 [.ref ak, .ref tl, .ref tf, .ref ta, .ref tk, .ref tg, .ref tp, .ref tm, .int (nI cnt), .int (nI stp), .int z], cin g tl 4 laws, cin g tf 6 fogs, cin g ta 6 arms, cin g tk 8 kinds, cin g tg 8 faiths, cin g tp 8 places, cin g tm 8 moved, ckd g ak 6 (kdf k0 k1 k2 k3 k4 k5), cob k0 4 [], cob k1 2 [], cob k2 5 [], cob k3 6 [], cob k4 9 [], cob k5 1 []]) rfl (fun H locs hw => ?_)
  refine lv_if_eq (tgt := 20) hx hb dX10_does_8 (by decide) (fun c_1 => ?_) (fun c_1 => ?_)
  · refine lv_iconst (v := (-1)) hx hb dX10_does_20 (by decide) ?_
    exact rE_i hf hr hlk hw ⟨congrArg some (by simp only [doesF, if_pos c_1]), rfl⟩ (show ([lh, t, tl, tf, ta, tk, tg, tp, tm, ak, k0, k1, k2, k3, k4, k5] : List Nat) = [lh, t, tl, tf, ta, tk, tg, tp, tm, ak, k0, k1, k2, k3, k4, k5] from rfl) dX10_does_21
  · have hg := has_n hc8 c_1
    have hg2 := hg.2
    refine lv_iload_n hx hb dX10_does_11 rfl (lv_at hl 2 rfl) ?_
    refine lv_iconst (v := 0) hx hb dX10_does_12 (by decide) ?_
    refine lv_iconst (v := 3) hx hb dX10_does_13 (by decide) ?_
    refine mcS hf hk hst hw (c_X10_isOutside l g what 0 3) (va_cwS 3 hts gX10_does_X10_isOutside rfl rfl rfl hdS_X10_isOutside ⟨Nat.le_of_ble_eq_true rfl, Nat.le_of_ble_eq_true rfl⟩) [] rfl rfl rfl hl.1 rfl (Nat.le_of_ble_eq_true rfl) dX10_does_14 ⟨Nat.zero_le _, Nat.zero_le _⟩ (W' := [cob lh 10 [.ref ak, .ref t, .ref yt, .ref xt, .int isk, .ref ltp, .ref lrw, .int (nI rc), .ref lac, .ref lsh, .ref lhh, .ref lhg, .ref lhr], cob t 8 [.ref ak, .ref tl, .ref tf, .ref ta, .ref tk, .ref tg, .ref tp, .ref tm, .int (nI cnt), .int (nI stp), .int z], cin g tl 4 laws, cin g tf 6 fogs, cin g ta 6 arms, cin g tk 8 kinds, cin g tg 8 faiths, cin g tp 8 places, cin g tm 8 moved, ckd g ak 6 (kdf k0 k1 k2 k3 k4 k5), cob k0 4 [], cob k1 2 [], cob k2 5 [], cob k3 6 [], cob k4 9 [], cob k5 1 []]) rfl (fun H locs hw => ?_)
    refine lv_if_eq (tgt := 22) hx hb dX10_does_17 (by decide) (fun c_2 => ?_) (fun c_2 => ?_)
    · refine lv_aload_n hx hb dX10_does_22 rfl (lv_at hl 0 rfl) ?_
      refine rg hf hk hw hinX10 0 rfl rfl 1 (by decide) w_0 rfl dX10_does_23 ?_
      refine lv_iload_n hx hb dX10_does_26 rfl (lv_at hl 1 rfl) ?_
      refine lv_tope (y := nI (ix goer)) hg.1 ?_
      refine mcV hf hk hst hw (c_X8_isThrough l g t tl tf ta tk tg tp tm places cnt stp z ak (ix goer) (by omega)) (cwV 1 hts gX10_does_X8_isThrough rfl rfl rfl hdV_X8_isThrough ⟨Nat.le_of_ble_eq_true rfl, Nat.le_of_ble_eq_true rfl⟩) [1, 7] rfl rfl 1 rfl rfl rfl hl.1 rfl (Nat.le_of_ble_eq_true rfl) dX10_does_27 ⟨Nat.zero_le _, Nat.zero_le _⟩ (W' := [cob lh 10 [.ref ak, .ref t, .ref yt, .ref xt, .int isk, .ref ltp, .ref lrw, .int (nI rc), .ref lac, .ref lsh, .ref lhh, .ref lhg, .ref lhr], cob t 8 [.ref ak, .ref tl, .ref tf, .ref ta, .ref tk, .ref tg, .ref tp, .ref tm, .int (nI cnt), .int (nI stp), .int z], cin g tl 4 laws, cin g tf 6 fogs, cin g ta 6 arms, cin g tk 8 kinds, cin g tg 8 faiths, cin g tp 8 places, cin g tm 8 moved, ckd g ak 6 (kdf k0 k1 k2 k3 k4 k5), cob k0 4 [], cob k1 2 [], cob k2 5 [], cob k3 6 [], cob k4 9 [], cob k5 1 []]) rfl (fun H locs hw => ?_)
      refine lv_if_eq (tgt := 36) hx hb dX10_does_30 (by decide) (fun c_3 => ?_) (fun c_3 => ?_)
      · refine lv_aload_n hx hb dX10_does_36 rfl (lv_at hl 0 rfl) ?_
        refine rg hf hk hw hinX10 0 rfl rfl 1 (by decide) w_0 rfl dX10_does_37 ?_
        refine rg hf hk hw hinX8 1 rfl rfl 9 (by decide) w_1 rfl dX10_does_40 ?_
        refine lv_istore_n (lv' := [(3, .int (nI stp)), (0, .ref lh), (1, .int goer), (2, .int what)]) hx hb dX10_does_43 rfl hl (by decide) rfl (fun ls hl => ?_)
        refine lv_aload_n hx hb dX10_does_44 rfl (lv_at hl 1 rfl) ?_
        refine rg hf hk hw hinX10 0 rfl rfl 1 (by decide) w_0 rfl dX10_does_45 ?_
        refine rg hf hk hw hinX8 1 rfl rfl 2 (by decide) w_2 rfl dX10_does_48 ?_
        refine lv_iload_n hx hb dX10_does_51 rfl (lv_at hl 0 rfl) ?_
        refine mcS hf hk hst hw (c_X10_restOf l g stp (by omega)) (va_cwS 1 hts gX10_does_X10_restOf rfl rfl rfl hdS_X10_restOf ⟨Nat.le_of_ble_eq_true rfl, Nat.le_of_ble_eq_true rfl⟩) [] rfl rfl rfl hl.1 rfl (Nat.le_of_ble_eq_true rfl) dX10_does_52 ⟨Nat.zero_le _, Nat.zero_le _⟩ (W' := [cob lh 10 [.ref ak, .ref t, .ref yt, .ref xt, .int isk, .ref ltp, .ref lrw, .int (nI rc), .ref lac, .ref lsh, .ref lhh, .ref lhg, .ref lhr], cob t 8 [.ref ak, .ref tl, .ref tf, .ref ta, .ref tk, .ref tg, .ref tp, .ref tm, .int (nI cnt), .int (nI stp), .int z], cin g tl 4 laws, cin g tf 6 fogs, cin g ta 6 arms, cin g tk 8 kinds, cin g tg 8 faiths, cin g tp 8 places, cin g tm 8 moved, ckd g ak 6 (kdf k0 k1 k2 k3 k4 k5), cob k0 4 [], cob k1 2 [], cob k2 5 [], cob k3 6 [], cob k4 9 [], cob k5 1 []]) rfl (fun H locs hw => ?_)
        refine rij hf hk hw 3 rfl (j := stp % 6) (vp_in_nI (by omega) (by omega)) (nI_clamp (by omega)) dX10_does_55 ?_
        refine lv_istore (lv' := [(4, .int (fogs (stp % 6))), (3, .int (nI stp)), (0, .ref lh), (1, .int goer), (2, .int what)]) hx hb dX10_does_56 hl (by decide) rfl (fun ls hl => ?_)
        refine lv_aload_n hx hb dX10_does_58 rfl (lv_at hl 2 rfl) ?_
        refine rg hf hk hw hinX10 0 rfl rfl 1 (by decide) w_0 rfl dX10_does_59 ?_
        refine rg hf hk hw hinX8 1 rfl rfl 3 (by decide) w_3 rfl dX10_does_62 ?_
        refine lv_iload_n hx hb dX10_does_65 rfl (lv_at hl 1 rfl) ?_
        refine mcS hf hk hst hw (c_X10_restOf l g stp (by omega)) (va_cwS 1 hts gX10_does_X10_restOf rfl rfl rfl hdS_X10_restOf ⟨Nat.le_of_ble_eq_true rfl, Nat.le_of_ble_eq_true rfl⟩) [] rfl rfl rfl hl.1 rfl (Nat.le_of_ble_eq_true rfl) dX10_does_66 ⟨Nat.zero_le _, Nat.zero_le _⟩ (W' := [cob lh 10 [.ref ak, .ref t, .ref yt, .ref xt, .int isk, .ref ltp, .ref lrw, .int (nI rc), .ref lac, .ref lsh, .ref lhh, .ref lhg, .ref lhr], cob t 8 [.ref ak, .ref tl, .ref tf, .ref ta, .ref tk, .ref tg, .ref tp, .ref tm, .int (nI cnt), .int (nI stp), .int z], cin g tl 4 laws, cin g tf 6 fogs, cin g ta 6 arms, cin g tk 8 kinds, cin g tg 8 faiths, cin g tp 8 places, cin g tm 8 moved, ckd g ak 6 (kdf k0 k1 k2 k3 k4 k5), cob k0 4 [], cob k1 2 [], cob k2 5 [], cob k3 6 [], cob k4 9 [], cob k5 1 []]) rfl (fun H locs hw => ?_)
        refine rij hf hk hw 4 rfl (j := stp % 6) (vp_in_nI (by omega) (by omega)) (nI_clamp (by omega)) dX10_does_69 ?_
        refine lv_istore (lv' := [(5, .int (arms (stp % 6))), (4, .int (fogs (stp % 6))), (3, .int (nI stp)), (0, .ref lh), (1, .int goer), (2, .int what)]) hx hb dX10_does_70 hl (by decide) rfl (fun ls hl => ?_)
        refine lv_aload_n hx hb dX10_does_72 rfl (lv_at hl 3 rfl) ?_
        refine rg hf hk hw hinX10 0 rfl rfl 1 (by decide) w_0 rfl dX10_does_73 ?_
        refine rg hf hk hw hinX8 1 rfl rfl 1 (by decide) w_4 rfl dX10_does_76 ?_
        refine lv_iconst (v := 0) hx hb dX10_does_79 (by decide) ?_
        refine rij hf hk hw 2 rfl (j := 0) (vp_in_nI (n := 0) (by omega) (by omega)) (rfl) dX10_does_80 ?_
        refine lv_istore (lv' := [(6, .int (laws 0)), (5, .int (arms (stp % 6))), (4, .int (fogs (stp % 6))), (3, .int (nI stp)), (0, .ref lh), (1, .int goer), (2, .int what)]) hx hb dX10_does_81 hl (by decide) rfl (fun ls hl => ?_)
        refine lv_aload_n hx hb dX10_does_83 rfl (lv_at hl 4 rfl) ?_
        refine rg hf hk hw hinX10 0 rfl rfl 0 (by decide) w_5 rfl dX10_does_84 ?_
        refine lv_aload_n hx hb dX10_does_87 rfl (lv_at hl 4 rfl) ?_
        refine rg hf hk hw hinX10 0 rfl rfl 1 (by decide) w_0 rfl dX10_does_88 ?_
        refine rg hf hk hw hinX8 1 rfl rfl 4 (by decide) w_6 rfl dX10_does_91 ?_
        refine lv_iload_n hx hb dX10_does_94 rfl (lv_at hl 5 rfl) ?_
        refine lv_tope (y := nI (ix goer)) hg.1 ?_
        refine rij hf hk hw 5 rfl (j := ix goer) (vp_in_nI (by omega) (by omega)) (nI_clamp (by omega)) dX10_does_95 ?_
        rcases (hkd _ hg2) with e_4 | e_4 | e_4 | e_4 | e_4 | e_4
        · refine rkj hf hk hw 9 rfl (j := 0) (r := some k0) (by rw [e_4]; exact vp_in_nI (n := 0) (by omega) (by omega)) (by rw [e_4]; rfl) rfl dX10_does_96 ?_
          refine lv_astore (lv' := [(7, .ref k0), (6, .int (laws 0)), (5, .int (arms (stp % 6))), (4, .int (fogs (stp % 6))), (3, .int (nI stp)), (0, .ref lh), (1, .int goer), (2, .int what)]) hx hb dX10_does_97 hl (by decide) rfl (fun ls hl => ?_)
          refine lv_iload_n hx hb dX10_does_99 rfl (lv_at hl 7 rfl) ?_
          by_cases c_6 : what = 0
          · refine lv_tableIn (off := 28) (tgt := 128) hx hb dX10_does_100 (by rw [c_6]; decide) (by rw [c_6]; decide) (by rw [c_6]; rfl) (by decide) ?_
            refine lv_sipush (v := 1000) hx hb dX10_does_128 (by decide) ?_
            refine lv_aload hx hb dX10_does_131 (lv_at hl 0 rfl) ?_
            refine lv_iload hx hb dX10_does_133 (lv_at hl 3 rfl) ?_
            refine lv_iload hx hb dX10_does_135 (lv_at hl 2 rfl) ?_
            refine lv_iload hx hb dX10_does_137 (lv_at hl 1 rfl) ?_
            refine mcV hf hk hst hw (c_X4_sight l g k0 (fogs (stp % 6)) (arms (stp % 6)) (laws 0)) (cwV 3 hts gX10_does_X4_sight rfl rfl rfl hdV_X4_sight ⟨Nat.le_of_ble_eq_true rfl, Nat.le_of_ble_eq_true rfl⟩) [] rfl rfl 10 rfl rfl rfl hl.1 rfl (Nat.le_of_ble_eq_true rfl) dX10_does_139 ⟨Nat.zero_le _, Nat.zero_le _⟩ (W' := [cob lh 10 [.ref ak, .ref t, .ref yt, .ref xt, .int isk, .ref ltp, .ref lrw, .int (nI rc), .ref lac, .ref lsh, .ref lhh, .ref lhg, .ref lhr], cob t 8 [.ref ak, .ref tl, .ref tf, .ref ta, .ref tk, .ref tg, .ref tp, .ref tm, .int (nI cnt), .int (nI stp), .int z], cin g tl 4 laws, cin g tf 6 fogs, cin g ta 6 arms, cin g tk 8 kinds, cin g tg 8 faiths, cin g tp 8 places, cin g tm 8 moved, ckd g ak 6 (kdf k0 k1 k2 k3 k4 k5), cob k0 4 [], cob k1 2 [], cob k2 5 [], cob k3 6 [], cob k4 9 [], cob k5 1 []]) rfl (fun H locs hw => ?_)
            refine lv_iadd hx hb dX10_does_142 ?_
            exact rE_i hf hr hlk hw ⟨congrArg some (by simp only [doesF, if_neg c_1, if_pos c_2, if_pos c_3, if_pos c_6]; rw [e_4]; rfl), rfl⟩ (show ([lh, t, tl, tf, ta, tk, tg, tp, tm, ak, k0, k1, k2, k3, k4, k5] : List Nat) = [lh, t, tl, tf, ta, tk, tg, tp, tm, ak, k0, k1, k2, k3, k4, k5] from rfl) dX10_does_143
          by_cases c_7 : what = 1
          · refine lv_tableIn (off := 44) (tgt := 144) hx hb dX10_does_100 (by rw [c_7]; decide) (by rw [c_7]; decide) (by rw [c_7]; rfl) (by decide) ?_
            refine lv_sipush (v := 1000) hx hb dX10_does_144 (by decide) ?_
            refine lv_aload hx hb dX10_does_147 (lv_at hl 0 rfl) ?_
            refine lv_iload hx hb dX10_does_149 (lv_at hl 2 rfl) ?_
            refine lv_iload hx hb dX10_does_151 (lv_at hl 1 rfl) ?_
            refine mcV hf hk hst hw (c_X4_keen l g k0 (arms (stp % 6)) (laws 0)) (cwV 2 hts gX10_does_X4_keen rfl rfl rfl hdV_X4_keen ⟨Nat.le_of_ble_eq_true rfl, Nat.le_of_ble_eq_true rfl⟩) [] rfl rfl 10 rfl rfl rfl hl.1 rfl (Nat.le_of_ble_eq_true rfl) dX10_does_153 ⟨Nat.zero_le _, Nat.zero_le _⟩ (W' := [cob lh 10 [.ref ak, .ref t, .ref yt, .ref xt, .int isk, .ref ltp, .ref lrw, .int (nI rc), .ref lac, .ref lsh, .ref lhh, .ref lhg, .ref lhr], cob t 8 [.ref ak, .ref tl, .ref tf, .ref ta, .ref tk, .ref tg, .ref tp, .ref tm, .int (nI cnt), .int (nI stp), .int z], cin g tl 4 laws, cin g tf 6 fogs, cin g ta 6 arms, cin g tk 8 kinds, cin g tg 8 faiths, cin g tp 8 places, cin g tm 8 moved, ckd g ak 6 (kdf k0 k1 k2 k3 k4 k5), cob k0 4 [], cob k1 2 [], cob k2 5 [], cob k3 6 [], cob k4 9 [], cob k5 1 []]) rfl (fun H locs hw => ?_)
            refine lv_iadd hx hb dX10_does_156 ?_
            exact rE_i hf hr hlk hw ⟨congrArg some (by simp only [doesF, if_neg c_1, if_pos c_2, if_pos c_3, if_neg c_6, if_pos c_7]; rw [e_4]; rfl), rfl⟩ (show ([lh, t, tl, tf, ta, tk, tg, tp, tm, ak, k0, k1, k2, k3, k4, k5] : List Nat) = [lh, t, tl, tf, ta, tk, tg, tp, tm, ak, k0, k1, k2, k3, k4, k5] from rfl) dX10_does_157
          by_cases c_8 : what = 2
          · refine lv_tableIn (off := 58) (tgt := 158) hx hb dX10_does_100 (by rw [c_8]; decide) (by rw [c_8]; decide) (by rw [c_8]; rfl) (by decide) ?_
            refine lv_sipush (v := 1000) hx hb dX10_does_158 (by decide) ?_
            refine lv_aload hx hb dX10_does_161 (lv_at hl 0 rfl) ?_
            refine lv_iload hx hb dX10_does_163 (lv_at hl 3 rfl) ?_
            refine mcV hf hk hst hw (c_X4_fears l g k0 (fogs (stp % 6))) (cwV 1 hts gX10_does_X4_fears rfl rfl rfl hdV_X4_fears ⟨Nat.le_of_ble_eq_true rfl, Nat.le_of_ble_eq_true rfl⟩) [] rfl rfl 10 rfl rfl rfl hl.1 rfl (Nat.le_of_ble_eq_true rfl) dX10_does_165 ⟨Nat.zero_le _, Nat.zero_le _⟩ (W' := [cob lh 10 [.ref ak, .ref t, .ref yt, .ref xt, .int isk, .ref ltp, .ref lrw, .int (nI rc), .ref lac, .ref lsh, .ref lhh, .ref lhg, .ref lhr], cob t 8 [.ref ak, .ref tl, .ref tf, .ref ta, .ref tk, .ref tg, .ref tp, .ref tm, .int (nI cnt), .int (nI stp), .int z], cin g tl 4 laws, cin g tf 6 fogs, cin g ta 6 arms, cin g tk 8 kinds, cin g tg 8 faiths, cin g tp 8 places, cin g tm 8 moved, ckd g ak 6 (kdf k0 k1 k2 k3 k4 k5), cob k0 4 [], cob k1 2 [], cob k2 5 [], cob k3 6 [], cob k4 9 [], cob k5 1 []]) rfl (fun H locs hw => ?_)
            refine lv_iadd hx hb dX10_does_168 ?_
            exact rE_i hf hr hlk hw ⟨congrArg some (by simp only [doesF, if_neg c_1, if_pos c_2, if_pos c_3, if_neg c_6, if_neg c_7, if_pos c_8]; rw [e_4]; rfl), rfl⟩ (show ([lh, t, tl, tf, ta, tk, tg, tp, tm, ak, k0, k1, k2, k3, k4, k5] : List Nat) = [lh, t, tl, tf, ta, tk, tg, tp, tm, ak, k0, k1, k2, k3, k4, k5] from rfl) dX10_does_169
          refine lv_tableOut (tgt := 170) hx hb dX10_does_100 (sw_o2 0 2 [0, 1, 2] (by decide) (by decide) (by simp only [List.mem_cons, List.not_mem_nil, or_false, not_or]; exact ⟨c_6, c_7, c_8⟩)) (by decide) ?_
          refine lv_sipush (v := 1000) hx hb dX10_does_170 (by decide) ?_
          refine lv_aload hx hb dX10_does_173 (lv_at hl 0 rfl) ?_
          refine lv_iload_n hx hb dX10_does_175 rfl (lv_at hl 4 rfl) ?_
          refine lv_aload_n hx hb dX10_does_176 rfl (lv_at hl 5 rfl) ?_
          refine rg hf hk hw hinX10 0 rfl rfl 1 (by decide) w_0 rfl dX10_does_177 ?_
          refine lv_iload_n hx hb dX10_does_180 rfl (lv_at hl 6 rfl) ?_
          refine lv_tope (y := nI (ix goer)) hg.1 ?_
          refine lv_iload_n hx hb dX10_does_181 rfl (lv_at hl 4 rfl) ?_
          refine mcV hf hk hst hw (c_X8_sees l g t tl tf ta tk tg tp tm laws fogs arms kinds faiths places moved cnt stp z ak k0 k1 k2 k3 k4 k5 (ix goer) stp (by omega) (by omega) (hkd _ hg2)) (cwV 2 hts gX10_does_X8_sees rfl rfl rfl hdV_X8_sees ⟨Nat.le_of_ble_eq_true rfl, Nat.le_of_ble_eq_true rfl⟩) [1, 2, 3, 4, 5, 6, 7, 8, 9, 10, 11, 12, 13, 14, 15] rfl rfl 1 rfl rfl rfl hl.1 rfl (Nat.le_of_ble_eq_true rfl) dX10_does_182 ⟨Nat.zero_le _, Nat.zero_le _⟩ (W' := [cob lh 10 [.ref ak, .ref t, .ref yt, .ref xt, .int isk, .ref ltp, .ref lrw, .int (nI rc), .ref lac, .ref lsh, .ref lhh, .ref lhg, .ref lhr], cob t 8 [.ref ak, .ref tl, .ref tf, .ref ta, .ref tk, .ref tg, .ref tp, .ref tm, .int (nI cnt), .int (nI stp), .int z], cin g tl 4 laws, cin g tf 6 fogs, cin g ta 6 arms, cin g tk 8 kinds, cin g tg 8 faiths, cin g tp 8 places, cin g tm 8 moved, ckd g ak 6 (kdf k0 k1 k2 k3 k4 k5), cob k0 4 [], cob k1 2 [], cob k2 5 [], cob k3 6 [], cob k4 9 [], cob k5 1 []]) rfl (fun H locs hw => ?_)
          refine mcV hf hk hst hw (c_X4_pace l g k0 (nI stp) (seesF (kinds (ix goer)) (fogs (stp % 6)) (arms (stp % 6)) (laws 0) (places (ix goer)))) (cwV 2 hts gX10_does_X4_pace rfl rfl rfl hdV_X4_pace ⟨Nat.le_of_ble_eq_true rfl, Nat.le_of_ble_eq_true rfl⟩) [] rfl rfl 10 rfl rfl rfl hl.1 rfl (Nat.le_of_ble_eq_true rfl) dX10_does_185 ⟨Nat.zero_le _, Nat.zero_le _⟩ (W' := [cob lh 10 [.ref ak, .ref t, .ref yt, .ref xt, .int isk, .ref ltp, .ref lrw, .int (nI rc), .ref lac, .ref lsh, .ref lhh, .ref lhg, .ref lhr], cob t 8 [.ref ak, .ref tl, .ref tf, .ref ta, .ref tk, .ref tg, .ref tp, .ref tm, .int (nI cnt), .int (nI stp), .int z], cin g tl 4 laws, cin g tf 6 fogs, cin g ta 6 arms, cin g tk 8 kinds, cin g tg 8 faiths, cin g tp 8 places, cin g tm 8 moved, ckd g ak 6 (kdf k0 k1 k2 k3 k4 k5), cob k0 4 [], cob k1 2 [], cob k2 5 [], cob k3 6 [], cob k4 9 [], cob k5 1 []]) rfl (fun H locs hw => ?_)
          refine lv_iadd hx hb dX10_does_188 ?_
          exact rE_i hf hr hlk hw ⟨congrArg some (by simp only [doesF, if_neg c_1, if_pos c_2, if_pos c_3, if_neg c_6, if_neg c_7, if_neg c_8]; rw [e_4]; rfl), rfl⟩ (show ([lh, t, tl, tf, ta, tk, tg, tp, tm, ak, k0, k1, k2, k3, k4, k5] : List Nat) = [lh, t, tl, tf, ta, tk, tg, tp, tm, ak, k0, k1, k2, k3, k4, k5] from rfl) dX10_does_189
        · refine rkj hf hk hw 9 rfl (j := 1) (r := some k1) (by rw [e_4]; exact vp_in_nI (n := 1) (by omega) (by omega)) (by rw [e_4]; rfl) rfl dX10_does_96 ?_
          refine lv_astore (lv' := [(7, .ref k1), (6, .int (laws 0)), (5, .int (arms (stp % 6))), (4, .int (fogs (stp % 6))), (3, .int (nI stp)), (0, .ref lh), (1, .int goer), (2, .int what)]) hx hb dX10_does_97 hl (by decide) rfl (fun ls hl => ?_)
          refine lv_iload_n hx hb dX10_does_99 rfl (lv_at hl 7 rfl) ?_
          by_cases c_10 : what = 0
          · refine lv_tableIn (off := 28) (tgt := 128) hx hb dX10_does_100 (by rw [c_10]; decide) (by rw [c_10]; decide) (by rw [c_10]; rfl) (by decide) ?_
            refine lv_sipush (v := 1000) hx hb dX10_does_128 (by decide) ?_
            refine lv_aload hx hb dX10_does_131 (lv_at hl 0 rfl) ?_
            refine lv_iload hx hb dX10_does_133 (lv_at hl 3 rfl) ?_
            refine lv_iload hx hb dX10_does_135 (lv_at hl 2 rfl) ?_
            refine lv_iload hx hb dX10_does_137 (lv_at hl 1 rfl) ?_
            refine mcU hf hk hst hw (c_X2_sight l g k1 2 RX2 TX2 0 (fogs (stp % 6)) (arms (stp % 6)) (laws 0) rfl) (va_cwO 3 hts gX10_does_X2_sight_u162X2 rfl rfl rfl w_7 hdU_LightMan_Kind_sight ⟨Nat.le_of_ble_eq_true rfl, Nat.le_of_ble_eq_true rfl⟩) [11] rfl rfl 11 rfl rfl rfl hl.1 rfl (Nat.le_of_ble_eq_true rfl) dX10_does_139 ⟨Nat.zero_le _, Nat.zero_le _⟩ (W' := [cob lh 10 [.ref ak, .ref t, .ref yt, .ref xt, .int isk, .ref ltp, .ref lrw, .int (nI rc), .ref lac, .ref lsh, .ref lhh, .ref lhg, .ref lhr], cob t 8 [.ref ak, .ref tl, .ref tf, .ref ta, .ref tk, .ref tg, .ref tp, .ref tm, .int (nI cnt), .int (nI stp), .int z], cin g tl 4 laws, cin g tf 6 fogs, cin g ta 6 arms, cin g tk 8 kinds, cin g tg 8 faiths, cin g tp 8 places, cin g tm 8 moved, ckd g ak 6 (kdf k0 k1 k2 k3 k4 k5), cob k0 4 [], cob k1 2 [], cob k2 5 [], cob k3 6 [], cob k4 9 [], cob k5 1 []]) rfl (fun H locs hw => ?_)
            refine lv_iadd hx hb dX10_does_142 ?_
            exact rE_i hf hr hlk hw ⟨congrArg some (by simp only [doesF, if_neg c_1, if_pos c_2, if_pos c_3, if_pos c_10]; rw [e_4]; rfl), rfl⟩ (show ([lh, t, tl, tf, ta, tk, tg, tp, tm, ak, k0, k1, k2, k3, k4, k5] : List Nat) = [lh, t, tl, tf, ta, tk, tg, tp, tm, ak, k0, k1, k2, k3, k4, k5] from rfl) dX10_does_143
          by_cases c_11 : what = 1
          · refine lv_tableIn (off := 44) (tgt := 144) hx hb dX10_does_100 (by rw [c_11]; decide) (by rw [c_11]; decide) (by rw [c_11]; rfl) (by decide) ?_
            refine lv_sipush (v := 1000) hx hb dX10_does_144 (by decide) ?_
            refine lv_aload hx hb dX10_does_147 (lv_at hl 0 rfl) ?_
            refine lv_iload hx hb dX10_does_149 (lv_at hl 2 rfl) ?_
            refine lv_iload hx hb dX10_does_151 (lv_at hl 1 rfl) ?_
            refine mcU hf hk hst hw (c_X2_keen l g k1 2 RX2 TX2 0 (arms (stp % 6)) (laws 0) rfl) (va_cwO 2 hts gX10_does_X2_keen_u166X2 rfl rfl rfl w_8 hdU_LightMan_Kind_keen ⟨Nat.le_of_ble_eq_true rfl, Nat.le_of_ble_eq_true rfl⟩) [11] rfl rfl 11 rfl rfl rfl hl.1 rfl (Nat.le_of_ble_eq_true rfl) dX10_does_153 ⟨Nat.zero_le _, Nat.zero_le _⟩ (W' := [cob lh 10 [.ref ak, .ref t, .ref yt, .ref xt, .int isk, .ref ltp, .ref lrw, .int (nI rc), .ref lac, .ref lsh, .ref lhh, .ref lhg, .ref lhr], cob t 8 [.ref ak, .ref tl, .ref tf, .ref ta, .ref tk, .ref tg, .ref tp, .ref tm, .int (nI cnt), .int (nI stp), .int z], cin g tl 4 laws, cin g tf 6 fogs, cin g ta 6 arms, cin g tk 8 kinds, cin g tg 8 faiths, cin g tp 8 places, cin g tm 8 moved, ckd g ak 6 (kdf k0 k1 k2 k3 k4 k5), cob k0 4 [], cob k1 2 [], cob k2 5 [], cob k3 6 [], cob k4 9 [], cob k5 1 []]) rfl (fun H locs hw => ?_)
            refine lv_iadd hx hb dX10_does_156 ?_
            exact rE_i hf hr hlk hw ⟨congrArg some (by simp only [doesF, if_neg c_1, if_pos c_2, if_pos c_3, if_neg c_10, if_pos c_11]; rw [e_4]; rfl), rfl⟩ (show ([lh, t, tl, tf, ta, tk, tg, tp, tm, ak, k0, k1, k2, k3, k4, k5] : List Nat) = [lh, t, tl, tf, ta, tk, tg, tp, tm, ak, k0, k1, k2, k3, k4, k5] from rfl) dX10_does_157
          by_cases c_12 : what = 2
          · refine lv_tableIn (off := 58) (tgt := 158) hx hb dX10_does_100 (by rw [c_12]; decide) (by rw [c_12]; decide) (by rw [c_12]; rfl) (by decide) ?_
            refine lv_sipush (v := 1000) hx hb dX10_does_158 (by decide) ?_
            refine lv_aload hx hb dX10_does_161 (lv_at hl 0 rfl) ?_
            refine lv_iload hx hb dX10_does_163 (lv_at hl 3 rfl) ?_
            refine mcU hf hk hst hw (c_X2_fears l g k1 2 RX2 TX2 0 (fogs (stp % 6)) rfl) (va_cwO 1 hts gX10_does_X2_fears_u170X2 rfl rfl rfl w_9 hdU_LightMan_Kind_fears ⟨Nat.le_of_ble_eq_true rfl, Nat.le_of_ble_eq_true rfl⟩) [11] rfl rfl 11 rfl rfl rfl hl.1 rfl (Nat.le_of_ble_eq_true rfl) dX10_does_165 ⟨Nat.zero_le _, Nat.zero_le _⟩ (W' := [cob lh 10 [.ref ak, .ref t, .ref yt, .ref xt, .int isk, .ref ltp, .ref lrw, .int (nI rc), .ref lac, .ref lsh, .ref lhh, .ref lhg, .ref lhr], cob t 8 [.ref ak, .ref tl, .ref tf, .ref ta, .ref tk, .ref tg, .ref tp, .ref tm, .int (nI cnt), .int (nI stp), .int z], cin g tl 4 laws, cin g tf 6 fogs, cin g ta 6 arms, cin g tk 8 kinds, cin g tg 8 faiths, cin g tp 8 places, cin g tm 8 moved, ckd g ak 6 (kdf k0 k1 k2 k3 k4 k5), cob k0 4 [], cob k1 2 [], cob k2 5 [], cob k3 6 [], cob k4 9 [], cob k5 1 []]) rfl (fun H locs hw => ?_)
            refine lv_iadd hx hb dX10_does_168 ?_
            exact rE_i hf hr hlk hw ⟨congrArg some (by simp only [doesF, if_neg c_1, if_pos c_2, if_pos c_3, if_neg c_10, if_neg c_11, if_pos c_12]; rw [e_4]; rfl), rfl⟩ (show ([lh, t, tl, tf, ta, tk, tg, tp, tm, ak, k0, k1, k2, k3, k4, k5] : List Nat) = [lh, t, tl, tf, ta, tk, tg, tp, tm, ak, k0, k1, k2, k3, k4, k5] from rfl) dX10_does_169
          refine lv_tableOut (tgt := 170) hx hb dX10_does_100 (sw_o2 0 2 [0, 1, 2] (by decide) (by decide) (by simp only [List.mem_cons, List.not_mem_nil, or_false, not_or]; exact ⟨c_10, c_11, c_12⟩)) (by decide) ?_
          refine lv_sipush (v := 1000) hx hb dX10_does_170 (by decide) ?_
          refine lv_aload hx hb dX10_does_173 (lv_at hl 0 rfl) ?_
          refine lv_iload_n hx hb dX10_does_175 rfl (lv_at hl 4 rfl) ?_
          refine lv_aload_n hx hb dX10_does_176 rfl (lv_at hl 5 rfl) ?_
          refine rg hf hk hw hinX10 0 rfl rfl 1 (by decide) w_0 rfl dX10_does_177 ?_
          refine lv_iload_n hx hb dX10_does_180 rfl (lv_at hl 6 rfl) ?_
          refine lv_tope (y := nI (ix goer)) hg.1 ?_
          refine lv_iload_n hx hb dX10_does_181 rfl (lv_at hl 4 rfl) ?_
          refine mcV hf hk hst hw (c_X8_sees l g t tl tf ta tk tg tp tm laws fogs arms kinds faiths places moved cnt stp z ak k0 k1 k2 k3 k4 k5 (ix goer) stp (by omega) (by omega) (hkd _ hg2)) (cwV 2 hts gX10_does_X8_sees rfl rfl rfl hdV_X8_sees ⟨Nat.le_of_ble_eq_true rfl, Nat.le_of_ble_eq_true rfl⟩) [1, 2, 3, 4, 5, 6, 7, 8, 9, 10, 11, 12, 13, 14, 15] rfl rfl 1 rfl rfl rfl hl.1 rfl (Nat.le_of_ble_eq_true rfl) dX10_does_182 ⟨Nat.zero_le _, Nat.zero_le _⟩ (W' := [cob lh 10 [.ref ak, .ref t, .ref yt, .ref xt, .int isk, .ref ltp, .ref lrw, .int (nI rc), .ref lac, .ref lsh, .ref lhh, .ref lhg, .ref lhr], cob t 8 [.ref ak, .ref tl, .ref tf, .ref ta, .ref tk, .ref tg, .ref tp, .ref tm, .int (nI cnt), .int (nI stp), .int z], cin g tl 4 laws, cin g tf 6 fogs, cin g ta 6 arms, cin g tk 8 kinds, cin g tg 8 faiths, cin g tp 8 places, cin g tm 8 moved, ckd g ak 6 (kdf k0 k1 k2 k3 k4 k5), cob k0 4 [], cob k1 2 [], cob k2 5 [], cob k3 6 [], cob k4 9 [], cob k5 1 []]) rfl (fun H locs hw => ?_)
          refine mcU hf hk hst hw (c_X2_pace l g k1 2 RX2 TX2 0 (nI stp) (seesF (kinds (ix goer)) (fogs (stp % 6)) (arms (stp % 6)) (laws 0) (places (ix goer))) rfl) (va_cwO 2 hts gX10_does_X2_pace_u177X2 rfl rfl rfl w_10 hdU_LightMan_Kind_pace ⟨Nat.le_of_ble_eq_true rfl, Nat.le_of_ble_eq_true rfl⟩) [11] rfl rfl 11 rfl rfl rfl hl.1 rfl (Nat.le_of_ble_eq_true rfl) dX10_does_185 ⟨Nat.zero_le _, Nat.zero_le _⟩ (W' := [cob lh 10 [.ref ak, .ref t, .ref yt, .ref xt, .int isk, .ref ltp, .ref lrw, .int (nI rc), .ref lac, .ref lsh, .ref lhh, .ref lhg, .ref lhr], cob t 8 [.ref ak, .ref tl, .ref tf, .ref ta, .ref tk, .ref tg, .ref tp, .ref tm, .int (nI cnt), .int (nI stp), .int z], cin g tl 4 laws, cin g tf 6 fogs, cin g ta 6 arms, cin g tk 8 kinds, cin g tg 8 faiths, cin g tp 8 places, cin g tm 8 moved, ckd g ak 6 (kdf k0 k1 k2 k3 k4 k5), cob k0 4 [], cob k1 2 [], cob k2 5 [], cob k3 6 [], cob k4 9 [], cob k5 1 []]) rfl (fun H locs hw => ?_)
          refine lv_iadd hx hb dX10_does_188 ?_
          exact rE_i hf hr hlk hw ⟨congrArg some (by simp only [doesF, if_neg c_1, if_pos c_2, if_pos c_3, if_neg c_10, if_neg c_11, if_neg c_12]; rw [e_4]; rfl), rfl⟩ (show ([lh, t, tl, tf, ta, tk, tg, tp, tm, ak, k0, k1, k2, k3, k4, k5] : List Nat) = [lh, t, tl, tf, ta, tk, tg, tp, tm, ak, k0, k1, k2, k3, k4, k5] from rfl) dX10_does_189
        · refine rkj hf hk hw 9 rfl (j := 2) (r := some k2) (by rw [e_4]; exact vp_in_nI (n := 2) (by omega) (by omega)) (by rw [e_4]; rfl) rfl dX10_does_96 ?_
          refine lv_astore (lv' := [(7, .ref k2), (6, .int (laws 0)), (5, .int (arms (stp % 6))), (4, .int (fogs (stp % 6))), (3, .int (nI stp)), (0, .ref lh), (1, .int goer), (2, .int what)]) hx hb dX10_does_97 hl (by decide) rfl (fun ls hl => ?_)
          refine lv_iload_n hx hb dX10_does_99 rfl (lv_at hl 7 rfl) ?_
          by_cases c_14 : what = 0
          · refine lv_tableIn (off := 28) (tgt := 128) hx hb dX10_does_100 (by rw [c_14]; decide) (by rw [c_14]; decide) (by rw [c_14]; rfl) (by decide) ?_
            refine lv_sipush (v := 1000) hx hb dX10_does_128 (by decide) ?_
            refine lv_aload hx hb dX10_does_131 (lv_at hl 0 rfl) ?_
            refine lv_iload hx hb dX10_does_133 (lv_at hl 3 rfl) ?_
            refine lv_iload hx hb dX10_does_135 (lv_at hl 2 rfl) ?_
            refine lv_iload hx hb dX10_does_137 (lv_at hl 1 rfl) ?_
            refine mcU hf hk hst hw (c_X5_sight l g k2 5 RX5 TX5 0 (fogs (stp % 6)) (arms (stp % 6)) (laws 0) rfl) (va_cwO 3 hts gX10_does_X5_sight_u162X5 rfl rfl rfl w_7 hdU_LightMan_Kind_sight ⟨Nat.le_of_ble_eq_true rfl, Nat.le_of_ble_eq_true rfl⟩) [12] rfl rfl 12 rfl rfl rfl hl.1 rfl (Nat.le_of_ble_eq_true rfl) dX10_does_139 ⟨Nat.zero_le _, Nat.zero_le _⟩ (W' := [cob lh 10 [.ref ak, .ref t, .ref yt, .ref xt, .int isk, .ref ltp, .ref lrw, .int (nI rc), .ref lac, .ref lsh, .ref lhh, .ref lhg, .ref lhr], cob t 8 [.ref ak, .ref tl, .ref tf, .ref ta, .ref tk, .ref tg, .ref tp, .ref tm, .int (nI cnt), .int (nI stp), .int z], cin g tl 4 laws, cin g tf 6 fogs, cin g ta 6 arms, cin g tk 8 kinds, cin g tg 8 faiths, cin g tp 8 places, cin g tm 8 moved, ckd g ak 6 (kdf k0 k1 k2 k3 k4 k5), cob k0 4 [], cob k1 2 [], cob k2 5 [], cob k3 6 [], cob k4 9 [], cob k5 1 []]) rfl (fun H locs hw => ?_)
            refine lv_iadd hx hb dX10_does_142 ?_
            exact rE_i hf hr hlk hw ⟨congrArg some (by simp only [doesF, if_neg c_1, if_pos c_2, if_pos c_3, if_pos c_14]; rw [e_4]; rfl), rfl⟩ (show ([lh, t, tl, tf, ta, tk, tg, tp, tm, ak, k0, k1, k2, k3, k4, k5] : List Nat) = [lh, t, tl, tf, ta, tk, tg, tp, tm, ak, k0, k1, k2, k3, k4, k5] from rfl) dX10_does_143
          by_cases c_15 : what = 1
          · refine lv_tableIn (off := 44) (tgt := 144) hx hb dX10_does_100 (by rw [c_15]; decide) (by rw [c_15]; decide) (by rw [c_15]; rfl) (by decide) ?_
            refine lv_sipush (v := 1000) hx hb dX10_does_144 (by decide) ?_
            refine lv_aload hx hb dX10_does_147 (lv_at hl 0 rfl) ?_
            refine lv_iload hx hb dX10_does_149 (lv_at hl 2 rfl) ?_
            refine lv_iload hx hb dX10_does_151 (lv_at hl 1 rfl) ?_
            refine mcU hf hk hst hw (c_X5_keen l g k2 5 RX5 TX5 0 (arms (stp % 6)) (laws 0) rfl) (va_cwO 2 hts gX10_does_X5_keen_u166X5 rfl rfl rfl w_8 hdU_LightMan_Kind_keen ⟨Nat.le_of_ble_eq_true rfl, Nat.le_of_ble_eq_true rfl⟩) [12] rfl rfl 12 rfl rfl rfl hl.1 rfl (Nat.le_of_ble_eq_true rfl) dX10_does_153 ⟨Nat.zero_le _, Nat.zero_le _⟩ (W' := [cob lh 10 [.ref ak, .ref t, .ref yt, .ref xt, .int isk, .ref ltp, .ref lrw, .int (nI rc), .ref lac, .ref lsh, .ref lhh, .ref lhg, .ref lhr], cob t 8 [.ref ak, .ref tl, .ref tf, .ref ta, .ref tk, .ref tg, .ref tp, .ref tm, .int (nI cnt), .int (nI stp), .int z], cin g tl 4 laws, cin g tf 6 fogs, cin g ta 6 arms, cin g tk 8 kinds, cin g tg 8 faiths, cin g tp 8 places, cin g tm 8 moved, ckd g ak 6 (kdf k0 k1 k2 k3 k4 k5), cob k0 4 [], cob k1 2 [], cob k2 5 [], cob k3 6 [], cob k4 9 [], cob k5 1 []]) rfl (fun H locs hw => ?_)
            refine lv_iadd hx hb dX10_does_156 ?_
            exact rE_i hf hr hlk hw ⟨congrArg some (by simp only [doesF, if_neg c_1, if_pos c_2, if_pos c_3, if_neg c_14, if_pos c_15]; rw [e_4]; rfl), rfl⟩ (show ([lh, t, tl, tf, ta, tk, tg, tp, tm, ak, k0, k1, k2, k3, k4, k5] : List Nat) = [lh, t, tl, tf, ta, tk, tg, tp, tm, ak, k0, k1, k2, k3, k4, k5] from rfl) dX10_does_157
          by_cases c_16 : what = 2
          · refine lv_tableIn (off := 58) (tgt := 158) hx hb dX10_does_100 (by rw [c_16]; decide) (by rw [c_16]; decide) (by rw [c_16]; rfl) (by decide) ?_
            refine lv_sipush (v := 1000) hx hb dX10_does_158 (by decide) ?_
            refine lv_aload hx hb dX10_does_161 (lv_at hl 0 rfl) ?_
            refine lv_iload hx hb dX10_does_163 (lv_at hl 3 rfl) ?_
            refine mcU hf hk hst hw (c_X5_fears l g k2 5 RX5 TX5 0 (fogs (stp % 6)) rfl) (va_cwO 1 hts gX10_does_X5_fears_u170X5 rfl rfl rfl w_9 hdU_LightMan_Kind_fears ⟨Nat.le_of_ble_eq_true rfl, Nat.le_of_ble_eq_true rfl⟩) [12] rfl rfl 12 rfl rfl rfl hl.1 rfl (Nat.le_of_ble_eq_true rfl) dX10_does_165 ⟨Nat.zero_le _, Nat.zero_le _⟩ (W' := [cob lh 10 [.ref ak, .ref t, .ref yt, .ref xt, .int isk, .ref ltp, .ref lrw, .int (nI rc), .ref lac, .ref lsh, .ref lhh, .ref lhg, .ref lhr], cob t 8 [.ref ak, .ref tl, .ref tf, .ref ta, .ref tk, .ref tg, .ref tp, .ref tm, .int (nI cnt), .int (nI stp), .int z], cin g tl 4 laws, cin g tf 6 fogs, cin g ta 6 arms, cin g tk 8 kinds, cin g tg 8 faiths, cin g tp 8 places, cin g tm 8 moved, ckd g ak 6 (kdf k0 k1 k2 k3 k4 k5), cob k0 4 [], cob k1 2 [], cob k2 5 [], cob k3 6 [], cob k4 9 [], cob k5 1 []]) rfl (fun H locs hw => ?_)
            refine lv_iadd hx hb dX10_does_168 ?_
            exact rE_i hf hr hlk hw ⟨congrArg some (by simp only [doesF, if_neg c_1, if_pos c_2, if_pos c_3, if_neg c_14, if_neg c_15, if_pos c_16]; rw [e_4]; rfl), rfl⟩ (show ([lh, t, tl, tf, ta, tk, tg, tp, tm, ak, k0, k1, k2, k3, k4, k5] : List Nat) = [lh, t, tl, tf, ta, tk, tg, tp, tm, ak, k0, k1, k2, k3, k4, k5] from rfl) dX10_does_169
          refine lv_tableOut (tgt := 170) hx hb dX10_does_100 (sw_o2 0 2 [0, 1, 2] (by decide) (by decide) (by simp only [List.mem_cons, List.not_mem_nil, or_false, not_or]; exact ⟨c_14, c_15, c_16⟩)) (by decide) ?_
          refine lv_sipush (v := 1000) hx hb dX10_does_170 (by decide) ?_
          refine lv_aload hx hb dX10_does_173 (lv_at hl 0 rfl) ?_
          refine lv_iload_n hx hb dX10_does_175 rfl (lv_at hl 4 rfl) ?_
          refine lv_aload_n hx hb dX10_does_176 rfl (lv_at hl 5 rfl) ?_
          refine rg hf hk hw hinX10 0 rfl rfl 1 (by decide) w_0 rfl dX10_does_177 ?_
          refine lv_iload_n hx hb dX10_does_180 rfl (lv_at hl 6 rfl) ?_
          refine lv_tope (y := nI (ix goer)) hg.1 ?_
          refine lv_iload_n hx hb dX10_does_181 rfl (lv_at hl 4 rfl) ?_
          refine mcV hf hk hst hw (c_X8_sees l g t tl tf ta tk tg tp tm laws fogs arms kinds faiths places moved cnt stp z ak k0 k1 k2 k3 k4 k5 (ix goer) stp (by omega) (by omega) (hkd _ hg2)) (cwV 2 hts gX10_does_X8_sees rfl rfl rfl hdV_X8_sees ⟨Nat.le_of_ble_eq_true rfl, Nat.le_of_ble_eq_true rfl⟩) [1, 2, 3, 4, 5, 6, 7, 8, 9, 10, 11, 12, 13, 14, 15] rfl rfl 1 rfl rfl rfl hl.1 rfl (Nat.le_of_ble_eq_true rfl) dX10_does_182 ⟨Nat.zero_le _, Nat.zero_le _⟩ (W' := [cob lh 10 [.ref ak, .ref t, .ref yt, .ref xt, .int isk, .ref ltp, .ref lrw, .int (nI rc), .ref lac, .ref lsh, .ref lhh, .ref lhg, .ref lhr], cob t 8 [.ref ak, .ref tl, .ref tf, .ref ta, .ref tk, .ref tg, .ref tp, .ref tm, .int (nI cnt), .int (nI stp), .int z], cin g tl 4 laws, cin g tf 6 fogs, cin g ta 6 arms, cin g tk 8 kinds, cin g tg 8 faiths, cin g tp 8 places, cin g tm 8 moved, ckd g ak 6 (kdf k0 k1 k2 k3 k4 k5), cob k0 4 [], cob k1 2 [], cob k2 5 [], cob k3 6 [], cob k4 9 [], cob k5 1 []]) rfl (fun H locs hw => ?_)
          refine mcU hf hk hst hw (c_X4_pace l g k2 (nI stp) (seesF (kinds (ix goer)) (fogs (stp % 6)) (arms (stp % 6)) (laws 0) (places (ix goer)))) (va_cwU 2 hts gX10_does_X4_pace_u177X5 rfl rfl rfl rfl hdU_LightMan_Kind_pace ⟨Nat.le_of_ble_eq_true rfl, Nat.le_of_ble_eq_true rfl⟩) [] rfl rfl 12 rfl rfl rfl hl.1 rfl (Nat.le_of_ble_eq_true rfl) dX10_does_185 ⟨Nat.zero_le _, Nat.zero_le _⟩ (W' := [cob lh 10 [.ref ak, .ref t, .ref yt, .ref xt, .int isk, .ref ltp, .ref lrw, .int (nI rc), .ref lac, .ref lsh, .ref lhh, .ref lhg, .ref lhr], cob t 8 [.ref ak, .ref tl, .ref tf, .ref ta, .ref tk, .ref tg, .ref tp, .ref tm, .int (nI cnt), .int (nI stp), .int z], cin g tl 4 laws, cin g tf 6 fogs, cin g ta 6 arms, cin g tk 8 kinds, cin g tg 8 faiths, cin g tp 8 places, cin g tm 8 moved, ckd g ak 6 (kdf k0 k1 k2 k3 k4 k5), cob k0 4 [], cob k1 2 [], cob k2 5 [], cob k3 6 [], cob k4 9 [], cob k5 1 []]) rfl (fun H locs hw => ?_)
          refine lv_iadd hx hb dX10_does_188 ?_
          exact rE_i hf hr hlk hw ⟨congrArg some (by simp only [doesF, if_neg c_1, if_pos c_2, if_pos c_3, if_neg c_14, if_neg c_15, if_neg c_16]; rw [e_4]; rfl), rfl⟩ (show ([lh, t, tl, tf, ta, tk, tg, tp, tm, ak, k0, k1, k2, k3, k4, k5] : List Nat) = [lh, t, tl, tf, ta, tk, tg, tp, tm, ak, k0, k1, k2, k3, k4, k5] from rfl) dX10_does_189
        · refine rkj hf hk hw 9 rfl (j := 3) (r := some k3) (by rw [e_4]; exact vp_in_nI (n := 3) (by omega) (by omega)) (by rw [e_4]; rfl) rfl dX10_does_96 ?_
          refine lv_astore (lv' := [(7, .ref k3), (6, .int (laws 0)), (5, .int (arms (stp % 6))), (4, .int (fogs (stp % 6))), (3, .int (nI stp)), (0, .ref lh), (1, .int goer), (2, .int what)]) hx hb dX10_does_97 hl (by decide) rfl (fun ls hl => ?_)
          refine lv_iload_n hx hb dX10_does_99 rfl (lv_at hl 7 rfl) ?_
          by_cases c_18 : what = 0
          · refine lv_tableIn (off := 28) (tgt := 128) hx hb dX10_does_100 (by rw [c_18]; decide) (by rw [c_18]; decide) (by rw [c_18]; rfl) (by decide) ?_
            refine lv_sipush (v := 1000) hx hb dX10_does_128 (by decide) ?_
            refine lv_aload hx hb dX10_does_131 (lv_at hl 0 rfl) ?_
            refine lv_iload hx hb dX10_does_133 (lv_at hl 3 rfl) ?_
            refine lv_iload hx hb dX10_does_135 (lv_at hl 2 rfl) ?_
            refine lv_iload hx hb dX10_does_137 (lv_at hl 1 rfl) ?_
            refine mcU hf hk hst hw (c_X6_sight l g k3 6 RX6 TX6 0 (fogs (stp % 6)) (arms (stp % 6)) (laws 0) rfl) (va_cwO 3 hts gX10_does_X6_sight_u162X6 rfl rfl rfl w_7 hdU_LightMan_Kind_sight ⟨Nat.le_of_ble_eq_true rfl, Nat.le_of_ble_eq_true rfl⟩) [13] rfl rfl 13 rfl rfl rfl hl.1 rfl (Nat.le_of_ble_eq_true rfl) dX10_does_139 ⟨Nat.zero_le _, Nat.zero_le _⟩ (W' := [cob lh 10 [.ref ak, .ref t, .ref yt, .ref xt, .int isk, .ref ltp, .ref lrw, .int (nI rc), .ref lac, .ref lsh, .ref lhh, .ref lhg, .ref lhr], cob t 8 [.ref ak, .ref tl, .ref tf, .ref ta, .ref tk, .ref tg, .ref tp, .ref tm, .int (nI cnt), .int (nI stp), .int z], cin g tl 4 laws, cin g tf 6 fogs, cin g ta 6 arms, cin g tk 8 kinds, cin g tg 8 faiths, cin g tp 8 places, cin g tm 8 moved, ckd g ak 6 (kdf k0 k1 k2 k3 k4 k5), cob k0 4 [], cob k1 2 [], cob k2 5 [], cob k3 6 [], cob k4 9 [], cob k5 1 []]) rfl (fun H locs hw => ?_)
            refine lv_iadd hx hb dX10_does_142 ?_
            exact rE_i hf hr hlk hw ⟨congrArg some (by simp only [doesF, if_neg c_1, if_pos c_2, if_pos c_3, if_pos c_18]; rw [e_4]; rfl), rfl⟩ (show ([lh, t, tl, tf, ta, tk, tg, tp, tm, ak, k0, k1, k2, k3, k4, k5] : List Nat) = [lh, t, tl, tf, ta, tk, tg, tp, tm, ak, k0, k1, k2, k3, k4, k5] from rfl) dX10_does_143
          by_cases c_19 : what = 1
          · refine lv_tableIn (off := 44) (tgt := 144) hx hb dX10_does_100 (by rw [c_19]; decide) (by rw [c_19]; decide) (by rw [c_19]; rfl) (by decide) ?_
            refine lv_sipush (v := 1000) hx hb dX10_does_144 (by decide) ?_
            refine lv_aload hx hb dX10_does_147 (lv_at hl 0 rfl) ?_
            refine lv_iload hx hb dX10_does_149 (lv_at hl 2 rfl) ?_
            refine lv_iload hx hb dX10_does_151 (lv_at hl 1 rfl) ?_
            refine mcU hf hk hst hw (c_X6_keen l g k3 6 RX6 TX6 0 (arms (stp % 6)) (laws 0) rfl) (va_cwO 2 hts gX10_does_X6_keen_u166X6 rfl rfl rfl w_8 hdU_LightMan_Kind_keen ⟨Nat.le_of_ble_eq_true rfl, Nat.le_of_ble_eq_true rfl⟩) [13] rfl rfl 13 rfl rfl rfl hl.1 rfl (Nat.le_of_ble_eq_true rfl) dX10_does_153 ⟨Nat.zero_le _, Nat.zero_le _⟩ (W' := [cob lh 10 [.ref ak, .ref t, .ref yt, .ref xt, .int isk, .ref ltp, .ref lrw, .int (nI rc), .ref lac, .ref lsh, .ref lhh, .ref lhg, .ref lhr], cob t 8 [.ref ak, .ref tl, .ref tf, .ref ta, .ref tk, .ref tg, .ref tp, .ref tm, .int (nI cnt), .int (nI stp), .int z], cin g tl 4 laws, cin g tf 6 fogs, cin g ta 6 arms, cin g tk 8 kinds, cin g tg 8 faiths, cin g tp 8 places, cin g tm 8 moved, ckd g ak 6 (kdf k0 k1 k2 k3 k4 k5), cob k0 4 [], cob k1 2 [], cob k2 5 [], cob k3 6 [], cob k4 9 [], cob k5 1 []]) rfl (fun H locs hw => ?_)
            refine lv_iadd hx hb dX10_does_156 ?_
            exact rE_i hf hr hlk hw ⟨congrArg some (by simp only [doesF, if_neg c_1, if_pos c_2, if_pos c_3, if_neg c_18, if_pos c_19]; rw [e_4]; rfl), rfl⟩ (show ([lh, t, tl, tf, ta, tk, tg, tp, tm, ak, k0, k1, k2, k3, k4, k5] : List Nat) = [lh, t, tl, tf, ta, tk, tg, tp, tm, ak, k0, k1, k2, k3, k4, k5] from rfl) dX10_does_157
          by_cases c_20 : what = 2
          · refine lv_tableIn (off := 58) (tgt := 158) hx hb dX10_does_100 (by rw [c_20]; decide) (by rw [c_20]; decide) (by rw [c_20]; rfl) (by decide) ?_
            refine lv_sipush (v := 1000) hx hb dX10_does_158 (by decide) ?_
            refine lv_aload hx hb dX10_does_161 (lv_at hl 0 rfl) ?_
            refine lv_iload hx hb dX10_does_163 (lv_at hl 3 rfl) ?_
            refine mcU hf hk hst hw (c_X6_fears l g k3 6 RX6 TX6 0 (fogs (stp % 6)) rfl) (va_cwO 1 hts gX10_does_X6_fears_u170X6 rfl rfl rfl w_9 hdU_LightMan_Kind_fears ⟨Nat.le_of_ble_eq_true rfl, Nat.le_of_ble_eq_true rfl⟩) [13] rfl rfl 13 rfl rfl rfl hl.1 rfl (Nat.le_of_ble_eq_true rfl) dX10_does_165 ⟨Nat.zero_le _, Nat.zero_le _⟩ (W' := [cob lh 10 [.ref ak, .ref t, .ref yt, .ref xt, .int isk, .ref ltp, .ref lrw, .int (nI rc), .ref lac, .ref lsh, .ref lhh, .ref lhg, .ref lhr], cob t 8 [.ref ak, .ref tl, .ref tf, .ref ta, .ref tk, .ref tg, .ref tp, .ref tm, .int (nI cnt), .int (nI stp), .int z], cin g tl 4 laws, cin g tf 6 fogs, cin g ta 6 arms, cin g tk 8 kinds, cin g tg 8 faiths, cin g tp 8 places, cin g tm 8 moved, ckd g ak 6 (kdf k0 k1 k2 k3 k4 k5), cob k0 4 [], cob k1 2 [], cob k2 5 [], cob k3 6 [], cob k4 9 [], cob k5 1 []]) rfl (fun H locs hw => ?_)
            refine lv_iadd hx hb dX10_does_168 ?_
            exact rE_i hf hr hlk hw ⟨congrArg some (by simp only [doesF, if_neg c_1, if_pos c_2, if_pos c_3, if_neg c_18, if_neg c_19, if_pos c_20]; rw [e_4]; rfl), rfl⟩ (show ([lh, t, tl, tf, ta, tk, tg, tp, tm, ak, k0, k1, k2, k3, k4, k5] : List Nat) = [lh, t, tl, tf, ta, tk, tg, tp, tm, ak, k0, k1, k2, k3, k4, k5] from rfl) dX10_does_169
          refine lv_tableOut (tgt := 170) hx hb dX10_does_100 (sw_o2 0 2 [0, 1, 2] (by decide) (by decide) (by simp only [List.mem_cons, List.not_mem_nil, or_false, not_or]; exact ⟨c_18, c_19, c_20⟩)) (by decide) ?_
          refine lv_sipush (v := 1000) hx hb dX10_does_170 (by decide) ?_
          refine lv_aload hx hb dX10_does_173 (lv_at hl 0 rfl) ?_
          refine lv_iload_n hx hb dX10_does_175 rfl (lv_at hl 4 rfl) ?_
          refine lv_aload_n hx hb dX10_does_176 rfl (lv_at hl 5 rfl) ?_
          refine rg hf hk hw hinX10 0 rfl rfl 1 (by decide) w_0 rfl dX10_does_177 ?_
          refine lv_iload_n hx hb dX10_does_180 rfl (lv_at hl 6 rfl) ?_
          refine lv_tope (y := nI (ix goer)) hg.1 ?_
          refine lv_iload_n hx hb dX10_does_181 rfl (lv_at hl 4 rfl) ?_
          refine mcV hf hk hst hw (c_X8_sees l g t tl tf ta tk tg tp tm laws fogs arms kinds faiths places moved cnt stp z ak k0 k1 k2 k3 k4 k5 (ix goer) stp (by omega) (by omega) (hkd _ hg2)) (cwV 2 hts gX10_does_X8_sees rfl rfl rfl hdV_X8_sees ⟨Nat.le_of_ble_eq_true rfl, Nat.le_of_ble_eq_true rfl⟩) [1, 2, 3, 4, 5, 6, 7, 8, 9, 10, 11, 12, 13, 14, 15] rfl rfl 1 rfl rfl rfl hl.1 rfl (Nat.le_of_ble_eq_true rfl) dX10_does_182 ⟨Nat.zero_le _, Nat.zero_le _⟩ (W' := [cob lh 10 [.ref ak, .ref t, .ref yt, .ref xt, .int isk, .ref ltp, .ref lrw, .int (nI rc), .ref lac, .ref lsh, .ref lhh, .ref lhg, .ref lhr], cob t 8 [.ref ak, .ref tl, .ref tf, .ref ta, .ref tk, .ref tg, .ref tp, .ref tm, .int (nI cnt), .int (nI stp), .int z], cin g tl 4 laws, cin g tf 6 fogs, cin g ta 6 arms, cin g tk 8 kinds, cin g tg 8 faiths, cin g tp 8 places, cin g tm 8 moved, ckd g ak 6 (kdf k0 k1 k2 k3 k4 k5), cob k0 4 [], cob k1 2 [], cob k2 5 [], cob k3 6 [], cob k4 9 [], cob k5 1 []]) rfl (fun H locs hw => ?_)
          refine mcU hf hk hst hw (c_X6_pace l g k3 6 RX6 TX6 0 (nI stp) (seesF (kinds (ix goer)) (fogs (stp % 6)) (arms (stp % 6)) (laws 0) (places (ix goer))) rfl) (va_cwO 2 hts gX10_does_X6_pace_u177X6 rfl rfl rfl w_10 hdU_LightMan_Kind_pace ⟨Nat.le_of_ble_eq_true rfl, Nat.le_of_ble_eq_true rfl⟩) [13] rfl rfl 13 rfl rfl rfl hl.1 rfl (Nat.le_of_ble_eq_true rfl) dX10_does_185 ⟨Nat.zero_le _, Nat.zero_le _⟩ (W' := [cob lh 10 [.ref ak, .ref t, .ref yt, .ref xt, .int isk, .ref ltp, .ref lrw, .int (nI rc), .ref lac, .ref lsh, .ref lhh, .ref lhg, .ref lhr], cob t 8 [.ref ak, .ref tl, .ref tf, .ref ta, .ref tk, .ref tg, .ref tp, .ref tm, .int (nI cnt), .int (nI stp), .int z], cin g tl 4 laws, cin g tf 6 fogs, cin g ta 6 arms, cin g tk 8 kinds, cin g tg 8 faiths, cin g tp 8 places, cin g tm 8 moved, ckd g ak 6 (kdf k0 k1 k2 k3 k4 k5), cob k0 4 [], cob k1 2 [], cob k2 5 [], cob k3 6 [], cob k4 9 [], cob k5 1 []]) rfl (fun H locs hw => ?_)
          refine lv_iadd hx hb dX10_does_188 ?_
          exact rE_i hf hr hlk hw ⟨congrArg some (by simp only [doesF, if_neg c_1, if_pos c_2, if_pos c_3, if_neg c_18, if_neg c_19, if_neg c_20]; rw [e_4]; rfl), rfl⟩ (show ([lh, t, tl, tf, ta, tk, tg, tp, tm, ak, k0, k1, k2, k3, k4, k5] : List Nat) = [lh, t, tl, tf, ta, tk, tg, tp, tm, ak, k0, k1, k2, k3, k4, k5] from rfl) dX10_does_189
        · refine rkj hf hk hw 9 rfl (j := 4) (r := some k4) (by rw [e_4]; exact vp_in_nI (n := 4) (by omega) (by omega)) (by rw [e_4]; rfl) rfl dX10_does_96 ?_
          refine lv_astore (lv' := [(7, .ref k4), (6, .int (laws 0)), (5, .int (arms (stp % 6))), (4, .int (fogs (stp % 6))), (3, .int (nI stp)), (0, .ref lh), (1, .int goer), (2, .int what)]) hx hb dX10_does_97 hl (by decide) rfl (fun ls hl => ?_)
          refine lv_iload_n hx hb dX10_does_99 rfl (lv_at hl 7 rfl) ?_
          by_cases c_22 : what = 0
          · refine lv_tableIn (off := 28) (tgt := 128) hx hb dX10_does_100 (by rw [c_22]; decide) (by rw [c_22]; decide) (by rw [c_22]; rfl) (by decide) ?_
            refine lv_sipush (v := 1000) hx hb dX10_does_128 (by decide) ?_
            refine lv_aload hx hb dX10_does_131 (lv_at hl 0 rfl) ?_
            refine lv_iload hx hb dX10_does_133 (lv_at hl 3 rfl) ?_
            refine lv_iload hx hb dX10_does_135 (lv_at hl 2 rfl) ?_
            refine lv_iload hx hb dX10_does_137 (lv_at hl 1 rfl) ?_
            refine mcU hf hk hst hw (c_X9_sight l g k4 9 RX9 TX9 0 (fogs (stp % 6)) (arms (stp % 6)) (laws 0) rfl) (va_cwO 3 hts gX10_does_X9_sight_u162X9 rfl rfl rfl w_7 hdU_LightMan_Kind_sight ⟨Nat.le_of_ble_eq_true rfl, Nat.le_of_ble_eq_true rfl⟩) [14] rfl rfl 14 rfl rfl rfl hl.1 rfl (Nat.le_of_ble_eq_true rfl) dX10_does_139 ⟨Nat.zero_le _, Nat.zero_le _⟩ (W' := [cob lh 10 [.ref ak, .ref t, .ref yt, .ref xt, .int isk, .ref ltp, .ref lrw, .int (nI rc), .ref lac, .ref lsh, .ref lhh, .ref lhg, .ref lhr], cob t 8 [.ref ak, .ref tl, .ref tf, .ref ta, .ref tk, .ref tg, .ref tp, .ref tm, .int (nI cnt), .int (nI stp), .int z], cin g tl 4 laws, cin g tf 6 fogs, cin g ta 6 arms, cin g tk 8 kinds, cin g tg 8 faiths, cin g tp 8 places, cin g tm 8 moved, ckd g ak 6 (kdf k0 k1 k2 k3 k4 k5), cob k0 4 [], cob k1 2 [], cob k2 5 [], cob k3 6 [], cob k4 9 [], cob k5 1 []]) rfl (fun H locs hw => ?_)
            refine lv_iadd hx hb dX10_does_142 ?_
            exact rE_i hf hr hlk hw ⟨congrArg some (by simp only [doesF, if_neg c_1, if_pos c_2, if_pos c_3, if_pos c_22]; rw [e_4]; rfl), rfl⟩ (show ([lh, t, tl, tf, ta, tk, tg, tp, tm, ak, k0, k1, k2, k3, k4, k5] : List Nat) = [lh, t, tl, tf, ta, tk, tg, tp, tm, ak, k0, k1, k2, k3, k4, k5] from rfl) dX10_does_143
          by_cases c_23 : what = 1
          · refine lv_tableIn (off := 44) (tgt := 144) hx hb dX10_does_100 (by rw [c_23]; decide) (by rw [c_23]; decide) (by rw [c_23]; rfl) (by decide) ?_
            refine lv_sipush (v := 1000) hx hb dX10_does_144 (by decide) ?_
            refine lv_aload hx hb dX10_does_147 (lv_at hl 0 rfl) ?_
            refine lv_iload hx hb dX10_does_149 (lv_at hl 2 rfl) ?_
            refine lv_iload hx hb dX10_does_151 (lv_at hl 1 rfl) ?_
            refine mcU hf hk hst hw (c_X9_keen l g k4 9 RX9 TX9 0 (arms (stp % 6)) (laws 0) rfl) (va_cwO 2 hts gX10_does_X9_keen_u166X9 rfl rfl rfl w_8 hdU_LightMan_Kind_keen ⟨Nat.le_of_ble_eq_true rfl, Nat.le_of_ble_eq_true rfl⟩) [14] rfl rfl 14 rfl rfl rfl hl.1 rfl (Nat.le_of_ble_eq_true rfl) dX10_does_153 ⟨Nat.zero_le _, Nat.zero_le _⟩ (W' := [cob lh 10 [.ref ak, .ref t, .ref yt, .ref xt, .int isk, .ref ltp, .ref lrw, .int (nI rc), .ref lac, .ref lsh, .ref lhh, .ref lhg, .ref lhr], cob t 8 [.ref ak, .ref tl, .ref tf, .ref ta, .ref tk, .ref tg, .ref tp, .ref tm, .int (nI cnt), .int (nI stp), .int z], cin g tl 4 laws, cin g tf 6 fogs, cin g ta 6 arms, cin g tk 8 kinds, cin g tg 8 faiths, cin g tp 8 places, cin g tm 8 moved, ckd g ak 6 (kdf k0 k1 k2 k3 k4 k5), cob k0 4 [], cob k1 2 [], cob k2 5 [], cob k3 6 [], cob k4 9 [], cob k5 1 []]) rfl (fun H locs hw => ?_)
            refine lv_iadd hx hb dX10_does_156 ?_
            exact rE_i hf hr hlk hw ⟨congrArg some (by simp only [doesF, if_neg c_1, if_pos c_2, if_pos c_3, if_neg c_22, if_pos c_23]; rw [e_4]; rfl), rfl⟩ (show ([lh, t, tl, tf, ta, tk, tg, tp, tm, ak, k0, k1, k2, k3, k4, k5] : List Nat) = [lh, t, tl, tf, ta, tk, tg, tp, tm, ak, k0, k1, k2, k3, k4, k5] from rfl) dX10_does_157
          by_cases c_24 : what = 2
          · refine lv_tableIn (off := 58) (tgt := 158) hx hb dX10_does_100 (by rw [c_24]; decide) (by rw [c_24]; decide) (by rw [c_24]; rfl) (by decide) ?_
            refine lv_sipush (v := 1000) hx hb dX10_does_158 (by decide) ?_
            refine lv_aload hx hb dX10_does_161 (lv_at hl 0 rfl) ?_
            refine lv_iload hx hb dX10_does_163 (lv_at hl 3 rfl) ?_
            refine mcU hf hk hst hw (c_X9_fears l g k4 9 RX9 TX9 0 (fogs (stp % 6)) rfl) (va_cwO 1 hts gX10_does_X9_fears_u170X9 rfl rfl rfl w_9 hdU_LightMan_Kind_fears ⟨Nat.le_of_ble_eq_true rfl, Nat.le_of_ble_eq_true rfl⟩) [14] rfl rfl 14 rfl rfl rfl hl.1 rfl (Nat.le_of_ble_eq_true rfl) dX10_does_165 ⟨Nat.zero_le _, Nat.zero_le _⟩ (W' := [cob lh 10 [.ref ak, .ref t, .ref yt, .ref xt, .int isk, .ref ltp, .ref lrw, .int (nI rc), .ref lac, .ref lsh, .ref lhh, .ref lhg, .ref lhr], cob t 8 [.ref ak, .ref tl, .ref tf, .ref ta, .ref tk, .ref tg, .ref tp, .ref tm, .int (nI cnt), .int (nI stp), .int z], cin g tl 4 laws, cin g tf 6 fogs, cin g ta 6 arms, cin g tk 8 kinds, cin g tg 8 faiths, cin g tp 8 places, cin g tm 8 moved, ckd g ak 6 (kdf k0 k1 k2 k3 k4 k5), cob k0 4 [], cob k1 2 [], cob k2 5 [], cob k3 6 [], cob k4 9 [], cob k5 1 []]) rfl (fun H locs hw => ?_)
            refine lv_iadd hx hb dX10_does_168 ?_
            exact rE_i hf hr hlk hw ⟨congrArg some (by simp only [doesF, if_neg c_1, if_pos c_2, if_pos c_3, if_neg c_22, if_neg c_23, if_pos c_24]; rw [e_4]; rfl), rfl⟩ (show ([lh, t, tl, tf, ta, tk, tg, tp, tm, ak, k0, k1, k2, k3, k4, k5] : List Nat) = [lh, t, tl, tf, ta, tk, tg, tp, tm, ak, k0, k1, k2, k3, k4, k5] from rfl) dX10_does_169
          refine lv_tableOut (tgt := 170) hx hb dX10_does_100 (sw_o2 0 2 [0, 1, 2] (by decide) (by decide) (by simp only [List.mem_cons, List.not_mem_nil, or_false, not_or]; exact ⟨c_22, c_23, c_24⟩)) (by decide) ?_
          refine lv_sipush (v := 1000) hx hb dX10_does_170 (by decide) ?_
          refine lv_aload hx hb dX10_does_173 (lv_at hl 0 rfl) ?_
          refine lv_iload_n hx hb dX10_does_175 rfl (lv_at hl 4 rfl) ?_
          refine lv_aload_n hx hb dX10_does_176 rfl (lv_at hl 5 rfl) ?_
          refine rg hf hk hw hinX10 0 rfl rfl 1 (by decide) w_0 rfl dX10_does_177 ?_
          refine lv_iload_n hx hb dX10_does_180 rfl (lv_at hl 6 rfl) ?_
          refine lv_tope (y := nI (ix goer)) hg.1 ?_
          refine lv_iload_n hx hb dX10_does_181 rfl (lv_at hl 4 rfl) ?_
          refine mcV hf hk hst hw (c_X8_sees l g t tl tf ta tk tg tp tm laws fogs arms kinds faiths places moved cnt stp z ak k0 k1 k2 k3 k4 k5 (ix goer) stp (by omega) (by omega) (hkd _ hg2)) (cwV 2 hts gX10_does_X8_sees rfl rfl rfl hdV_X8_sees ⟨Nat.le_of_ble_eq_true rfl, Nat.le_of_ble_eq_true rfl⟩) [1, 2, 3, 4, 5, 6, 7, 8, 9, 10, 11, 12, 13, 14, 15] rfl rfl 1 rfl rfl rfl hl.1 rfl (Nat.le_of_ble_eq_true rfl) dX10_does_182 ⟨Nat.zero_le _, Nat.zero_le _⟩ (W' := [cob lh 10 [.ref ak, .ref t, .ref yt, .ref xt, .int isk, .ref ltp, .ref lrw, .int (nI rc), .ref lac, .ref lsh, .ref lhh, .ref lhg, .ref lhr], cob t 8 [.ref ak, .ref tl, .ref tf, .ref ta, .ref tk, .ref tg, .ref tp, .ref tm, .int (nI cnt), .int (nI stp), .int z], cin g tl 4 laws, cin g tf 6 fogs, cin g ta 6 arms, cin g tk 8 kinds, cin g tg 8 faiths, cin g tp 8 places, cin g tm 8 moved, ckd g ak 6 (kdf k0 k1 k2 k3 k4 k5), cob k0 4 [], cob k1 2 [], cob k2 5 [], cob k3 6 [], cob k4 9 [], cob k5 1 []]) rfl (fun H locs hw => ?_)
          refine mcU hf hk hst hw (c_X9_pace l g k4 9 RX9 TX9 0 (nI stp) (seesF (kinds (ix goer)) (fogs (stp % 6)) (arms (stp % 6)) (laws 0) (places (ix goer))) rfl) (va_cwO 2 hts gX10_does_X9_pace_u177X9 rfl rfl rfl w_10 hdU_LightMan_Kind_pace ⟨Nat.le_of_ble_eq_true rfl, Nat.le_of_ble_eq_true rfl⟩) [14] rfl rfl 14 rfl rfl rfl hl.1 rfl (Nat.le_of_ble_eq_true rfl) dX10_does_185 ⟨Nat.zero_le _, Nat.zero_le _⟩ (W' := [cob lh 10 [.ref ak, .ref t, .ref yt, .ref xt, .int isk, .ref ltp, .ref lrw, .int (nI rc), .ref lac, .ref lsh, .ref lhh, .ref lhg, .ref lhr], cob t 8 [.ref ak, .ref tl, .ref tf, .ref ta, .ref tk, .ref tg, .ref tp, .ref tm, .int (nI cnt), .int (nI stp), .int z], cin g tl 4 laws, cin g tf 6 fogs, cin g ta 6 arms, cin g tk 8 kinds, cin g tg 8 faiths, cin g tp 8 places, cin g tm 8 moved, ckd g ak 6 (kdf k0 k1 k2 k3 k4 k5), cob k0 4 [], cob k1 2 [], cob k2 5 [], cob k3 6 [], cob k4 9 [], cob k5 1 []]) rfl (fun H locs hw => ?_)
          refine lv_iadd hx hb dX10_does_188 ?_
          exact rE_i hf hr hlk hw ⟨congrArg some (by simp only [doesF, if_neg c_1, if_pos c_2, if_pos c_3, if_neg c_22, if_neg c_23, if_neg c_24]; rw [e_4]; rfl), rfl⟩ (show ([lh, t, tl, tf, ta, tk, tg, tp, tm, ak, k0, k1, k2, k3, k4, k5] : List Nat) = [lh, t, tl, tf, ta, tk, tg, tp, tm, ak, k0, k1, k2, k3, k4, k5] from rfl) dX10_does_189
        · refine rkj hf hk hw 9 rfl (j := 5) (r := some k5) (by rw [e_4]; exact vp_in_nI (n := 5) (by omega) (by omega)) (by rw [e_4]; rfl) rfl dX10_does_96 ?_
          refine lv_astore (lv' := [(7, .ref k5), (6, .int (laws 0)), (5, .int (arms (stp % 6))), (4, .int (fogs (stp % 6))), (3, .int (nI stp)), (0, .ref lh), (1, .int goer), (2, .int what)]) hx hb dX10_does_97 hl (by decide) rfl (fun ls hl => ?_)
          refine lv_iload_n hx hb dX10_does_99 rfl (lv_at hl 7 rfl) ?_
          by_cases c_26 : what = 0
          · refine lv_tableIn (off := 28) (tgt := 128) hx hb dX10_does_100 (by rw [c_26]; decide) (by rw [c_26]; decide) (by rw [c_26]; rfl) (by decide) ?_
            refine lv_sipush (v := 1000) hx hb dX10_does_128 (by decide) ?_
            refine lv_aload hx hb dX10_does_131 (lv_at hl 0 rfl) ?_
            refine lv_iload hx hb dX10_does_133 (lv_at hl 3 rfl) ?_
            refine lv_iload hx hb dX10_does_135 (lv_at hl 2 rfl) ?_
            refine lv_iload hx hb dX10_does_137 (lv_at hl 1 rfl) ?_
            refine mcU hf hk hst hw (c_X1_sight l g k5 (fogs (stp % 6)) (arms (stp % 6)) (laws 0)) (va_cwO 3 hts gX10_does_X1_sight_u162X1 rfl rfl rfl w_7 hdU_LightMan_Kind_sight ⟨Nat.le_of_ble_eq_true rfl, Nat.le_of_ble_eq_true rfl⟩) [] rfl rfl 15 rfl rfl rfl hl.1 rfl (Nat.le_of_ble_eq_true rfl) dX10_does_139 ⟨Nat.zero_le _, Nat.zero_le _⟩ (W' := [cob lh 10 [.ref ak, .ref t, .ref yt, .ref xt, .int isk, .ref ltp, .ref lrw, .int (nI rc), .ref lac, .ref lsh, .ref lhh, .ref lhg, .ref lhr], cob t 8 [.ref ak, .ref tl, .ref tf, .ref ta, .ref tk, .ref tg, .ref tp, .ref tm, .int (nI cnt), .int (nI stp), .int z], cin g tl 4 laws, cin g tf 6 fogs, cin g ta 6 arms, cin g tk 8 kinds, cin g tg 8 faiths, cin g tp 8 places, cin g tm 8 moved, ckd g ak 6 (kdf k0 k1 k2 k3 k4 k5), cob k0 4 [], cob k1 2 [], cob k2 5 [], cob k3 6 [], cob k4 9 [], cob k5 1 []]) rfl (fun H locs hw => ?_)
            refine lv_iadd hx hb dX10_does_142 ?_
            exact rE_i hf hr hlk hw ⟨congrArg some (by simp only [doesF, if_neg c_1, if_pos c_2, if_pos c_3, if_pos c_26]; rw [e_4]; rfl), rfl⟩ (show ([lh, t, tl, tf, ta, tk, tg, tp, tm, ak, k0, k1, k2, k3, k4, k5] : List Nat) = [lh, t, tl, tf, ta, tk, tg, tp, tm, ak, k0, k1, k2, k3, k4, k5] from rfl) dX10_does_143
          by_cases c_27 : what = 1
          · refine lv_tableIn (off := 44) (tgt := 144) hx hb dX10_does_100 (by rw [c_27]; decide) (by rw [c_27]; decide) (by rw [c_27]; rfl) (by decide) ?_
            refine lv_sipush (v := 1000) hx hb dX10_does_144 (by decide) ?_
            refine lv_aload hx hb dX10_does_147 (lv_at hl 0 rfl) ?_
            refine lv_iload hx hb dX10_does_149 (lv_at hl 2 rfl) ?_
            refine lv_iload hx hb dX10_does_151 (lv_at hl 1 rfl) ?_
            refine mcU hf hk hst hw (c_X1_keen l g k5 1 RX1 TX1 0 (arms (stp % 6)) (laws 0) rfl) (va_cwO 2 hts gX10_does_X1_keen_u166X1 rfl rfl rfl w_8 hdU_LightMan_Kind_keen ⟨Nat.le_of_ble_eq_true rfl, Nat.le_of_ble_eq_true rfl⟩) [15] rfl rfl 15 rfl rfl rfl hl.1 rfl (Nat.le_of_ble_eq_true rfl) dX10_does_153 ⟨Nat.zero_le _, Nat.zero_le _⟩ (W' := [cob lh 10 [.ref ak, .ref t, .ref yt, .ref xt, .int isk, .ref ltp, .ref lrw, .int (nI rc), .ref lac, .ref lsh, .ref lhh, .ref lhg, .ref lhr], cob t 8 [.ref ak, .ref tl, .ref tf, .ref ta, .ref tk, .ref tg, .ref tp, .ref tm, .int (nI cnt), .int (nI stp), .int z], cin g tl 4 laws, cin g tf 6 fogs, cin g ta 6 arms, cin g tk 8 kinds, cin g tg 8 faiths, cin g tp 8 places, cin g tm 8 moved, ckd g ak 6 (kdf k0 k1 k2 k3 k4 k5), cob k0 4 [], cob k1 2 [], cob k2 5 [], cob k3 6 [], cob k4 9 [], cob k5 1 []]) rfl (fun H locs hw => ?_)
            refine lv_iadd hx hb dX10_does_156 ?_
            exact rE_i hf hr hlk hw ⟨congrArg some (by simp only [doesF, if_neg c_1, if_pos c_2, if_pos c_3, if_neg c_26, if_pos c_27]; rw [e_4]; rfl), rfl⟩ (show ([lh, t, tl, tf, ta, tk, tg, tp, tm, ak, k0, k1, k2, k3, k4, k5] : List Nat) = [lh, t, tl, tf, ta, tk, tg, tp, tm, ak, k0, k1, k2, k3, k4, k5] from rfl) dX10_does_157
          by_cases c_28 : what = 2
          · refine lv_tableIn (off := 58) (tgt := 158) hx hb dX10_does_100 (by rw [c_28]; decide) (by rw [c_28]; decide) (by rw [c_28]; rfl) (by decide) ?_
            refine lv_sipush (v := 1000) hx hb dX10_does_158 (by decide) ?_
            refine lv_aload hx hb dX10_does_161 (lv_at hl 0 rfl) ?_
            refine lv_iload hx hb dX10_does_163 (lv_at hl 3 rfl) ?_
            refine mcU hf hk hst hw (c_X1_fears l g k5 1 RX1 TX1 0 (fogs (stp % 6)) rfl) (va_cwO 1 hts gX10_does_X1_fears_u170X1 rfl rfl rfl w_9 hdU_LightMan_Kind_fears ⟨Nat.le_of_ble_eq_true rfl, Nat.le_of_ble_eq_true rfl⟩) [15] rfl rfl 15 rfl rfl rfl hl.1 rfl (Nat.le_of_ble_eq_true rfl) dX10_does_165 ⟨Nat.zero_le _, Nat.zero_le _⟩ (W' := [cob lh 10 [.ref ak, .ref t, .ref yt, .ref xt, .int isk, .ref ltp, .ref lrw, .int (nI rc), .ref lac, .ref lsh, .ref lhh, .ref lhg, .ref lhr], cob t 8 [.ref ak, .ref tl, .ref tf, .ref ta, .ref tk, .ref tg, .ref tp, .ref tm, .int (nI cnt), .int (nI stp), .int z], cin g tl 4 laws, cin g tf 6 fogs, cin g ta 6 arms, cin g tk 8 kinds, cin g tg 8 faiths, cin g tp 8 places, cin g tm 8 moved, ckd g ak 6 (kdf k0 k1 k2 k3 k4 k5), cob k0 4 [], cob k1 2 [], cob k2 5 [], cob k3 6 [], cob k4 9 [], cob k5 1 []]) rfl (fun H locs hw => ?_)
            refine lv_iadd hx hb dX10_does_168 ?_
            exact rE_i hf hr hlk hw ⟨congrArg some (by simp only [doesF, if_neg c_1, if_pos c_2, if_pos c_3, if_neg c_26, if_neg c_27, if_pos c_28]; rw [e_4]; rfl), rfl⟩ (show ([lh, t, tl, tf, ta, tk, tg, tp, tm, ak, k0, k1, k2, k3, k4, k5] : List Nat) = [lh, t, tl, tf, ta, tk, tg, tp, tm, ak, k0, k1, k2, k3, k4, k5] from rfl) dX10_does_169
          refine lv_tableOut (tgt := 170) hx hb dX10_does_100 (sw_o2 0 2 [0, 1, 2] (by decide) (by decide) (by simp only [List.mem_cons, List.not_mem_nil, or_false, not_or]; exact ⟨c_26, c_27, c_28⟩)) (by decide) ?_
          refine lv_sipush (v := 1000) hx hb dX10_does_170 (by decide) ?_
          refine lv_aload hx hb dX10_does_173 (lv_at hl 0 rfl) ?_
          refine lv_iload_n hx hb dX10_does_175 rfl (lv_at hl 4 rfl) ?_
          refine lv_aload_n hx hb dX10_does_176 rfl (lv_at hl 5 rfl) ?_
          refine rg hf hk hw hinX10 0 rfl rfl 1 (by decide) w_0 rfl dX10_does_177 ?_
          refine lv_iload_n hx hb dX10_does_180 rfl (lv_at hl 6 rfl) ?_
          refine lv_tope (y := nI (ix goer)) hg.1 ?_
          refine lv_iload_n hx hb dX10_does_181 rfl (lv_at hl 4 rfl) ?_
          refine mcV hf hk hst hw (c_X8_sees l g t tl tf ta tk tg tp tm laws fogs arms kinds faiths places moved cnt stp z ak k0 k1 k2 k3 k4 k5 (ix goer) stp (by omega) (by omega) (hkd _ hg2)) (cwV 2 hts gX10_does_X8_sees rfl rfl rfl hdV_X8_sees ⟨Nat.le_of_ble_eq_true rfl, Nat.le_of_ble_eq_true rfl⟩) [1, 2, 3, 4, 5, 6, 7, 8, 9, 10, 11, 12, 13, 14, 15] rfl rfl 1 rfl rfl rfl hl.1 rfl (Nat.le_of_ble_eq_true rfl) dX10_does_182 ⟨Nat.zero_le _, Nat.zero_le _⟩ (W' := [cob lh 10 [.ref ak, .ref t, .ref yt, .ref xt, .int isk, .ref ltp, .ref lrw, .int (nI rc), .ref lac, .ref lsh, .ref lhh, .ref lhg, .ref lhr], cob t 8 [.ref ak, .ref tl, .ref tf, .ref ta, .ref tk, .ref tg, .ref tp, .ref tm, .int (nI cnt), .int (nI stp), .int z], cin g tl 4 laws, cin g tf 6 fogs, cin g ta 6 arms, cin g tk 8 kinds, cin g tg 8 faiths, cin g tp 8 places, cin g tm 8 moved, ckd g ak 6 (kdf k0 k1 k2 k3 k4 k5), cob k0 4 [], cob k1 2 [], cob k2 5 [], cob k3 6 [], cob k4 9 [], cob k5 1 []]) rfl (fun H locs hw => ?_)
          refine mcU hf hk hst hw (c_X1_pace l g k5 1 RX1 TX1 0 (nI stp) (seesF (kinds (ix goer)) (fogs (stp % 6)) (arms (stp % 6)) (laws 0) (places (ix goer))) rfl) (va_cwO 2 hts gX10_does_X1_pace_u177X1 rfl rfl rfl w_10 hdU_LightMan_Kind_pace ⟨Nat.le_of_ble_eq_true rfl, Nat.le_of_ble_eq_true rfl⟩) [15] rfl rfl 15 rfl rfl rfl hl.1 rfl (Nat.le_of_ble_eq_true rfl) dX10_does_185 ⟨Nat.zero_le _, Nat.zero_le _⟩ (W' := [cob lh 10 [.ref ak, .ref t, .ref yt, .ref xt, .int isk, .ref ltp, .ref lrw, .int (nI rc), .ref lac, .ref lsh, .ref lhh, .ref lhg, .ref lhr], cob t 8 [.ref ak, .ref tl, .ref tf, .ref ta, .ref tk, .ref tg, .ref tp, .ref tm, .int (nI cnt), .int (nI stp), .int z], cin g tl 4 laws, cin g tf 6 fogs, cin g ta 6 arms, cin g tk 8 kinds, cin g tg 8 faiths, cin g tp 8 places, cin g tm 8 moved, ckd g ak 6 (kdf k0 k1 k2 k3 k4 k5), cob k0 4 [], cob k1 2 [], cob k2 5 [], cob k3 6 [], cob k4 9 [], cob k5 1 []]) rfl (fun H locs hw => ?_)
          refine lv_iadd hx hb dX10_does_188 ?_
          exact rE_i hf hr hlk hw ⟨congrArg some (by simp only [doesF, if_neg c_1, if_pos c_2, if_pos c_3, if_neg c_26, if_neg c_27, if_neg c_28]; rw [e_4]; rfl), rfl⟩ (show ([lh, t, tl, tf, ta, tk, tg, tp, tm, ak, k0, k1, k2, k3, k4, k5] : List Nat) = [lh, t, tl, tf, ta, tk, tg, tp, tm, ak, k0, k1, k2, k3, k4, k5] from rfl) dX10_does_189
      · refine lv_bipush (v := (-3)) hx hb dX10_does_33 (by decide) ?_
        exact rE_i hf hr hlk hw ⟨congrArg some (by simp only [doesF, if_neg c_1, if_pos c_2, if_neg c_3]), rfl⟩ (show ([lh, t, tl, tf, ta, tk, tg, tp, tm, ak, k0, k1, k2, k3, k4, k5] : List Nat) = [lh, t, tl, tf, ta, tk, tg, tp, tm, ak, k0, k1, k2, k3, k4, k5] from rfl) dX10_does_35
    · refine lv_iconst (v := (-1)) hx hb dX10_does_20 (by decide) ?_
      exact rE_i hf hr hlk hw ⟨congrArg some (by simp only [doesF, if_neg c_1, if_neg c_2]), rfl⟩ (show ([lh, t, tl, tf, ta, tk, tg, tp, tm, ak, k0, k1, k2, k3, k4, k5] : List Nat) = [lh, t, tl, tf, ta, tk, tg, tp, tm, ak, k0, k1, k2, k3, k4, k5] from rfl) dX10_does_21
abbrev rmX10_seed : Room := { frames := 0, cells := 0, slots := 0, locals := 0 }
set_option maxHeartbeats 4000000 in
set_option maxRecDepth 100000 in
theorem c_X10_seed (l : Launch) (g : GG) (lh : Nat) (t : Nat) (tl : Nat) (tf : Nat) (ta : Nat) (tk : Nat) (tg : Nat) (tp : Nat) (tm : Nat) (cnt : Nat) (stp : Nat) (z : Int32) (xt : Nat) (yt : Nat) (ak : Nat) (isk : Int32) (ltp : Nat) (lrw : Nat) (rc : Nat) (lac : Nat) (lsh : Nat) (lhh : Nat) (lhg : Nat) (lhr : Nat) (v : Int32) : mtR l g yX10_seed wsX10_seed rmX10_seed [.ref lh, .int v] [cob lh 10 [.ref ak, .ref t, .ref yt, .ref xt, .int isk, .ref ltp, .ref lrw, .int (nI rc), .ref lac, .ref lsh, .ref lhh, .ref lhg, .ref lhr], cob t 8 [.ref ak, .ref tl, .ref tf, .ref ta, .ref tk, .ref tg, .ref tp, .ref tm, .int (nI cnt), .int (nI stp), .int z]] (fun rv W => rv = (some (.int z)) ∧ W = [cob lh 10 [.ref ak, .ref t, .ref yt, .ref xt, .int isk, .ref ltp, .ref lrw, .int (nI rc), .ref lac, .ref lsh, .ref lhh, .ref lhg, .ref lhr], cob t 8 [.ref ak, .ref tl, .ref tf, .ref ta, .ref tk, .ref tg, .ref tp, .ref tm, .int (nI cnt), .int (nI stp), .int v]]) := by
  refine mtR.of (cc := cX10_seed) (nL := 3) (ret := (some .int)) (own := RX10) (by decide +kernel) rfl rfl (Nat.le_of_ble_eq_true rfl) (fun p e s m below meth c hf hr hlk _ hk hst hw ls hl => ?_)
  have hx := hf.1
  have hb := hf.2.1
  have hts := hf.2.2.2.2
  have hl : lv_has ls 3 [(0, .ref lh), (1, .int v)] := hl
  have hinX10 : ∀ w ∈ u_ws RX10 TX10 13, w ∈ wsX10_seed := fun w h => List.mem_cons_of_mem _ (List.mem_append_left _ (List.mem_append_right _ h))
  have w_0 : Cond.fieldLink RX10 36 "LightMan" "now" "LLightMan$Tunnel;" ∈ wsX10_seed := List.mem_of_getElem? (i := 1) rfl
  have hinX8 : ∀ w ∈ u_ws RX8 TX8 11, w ∈ wsX10_seed := fun w h => List.mem_cons_of_mem _ (List.mem_append_right _ h)
  have w_1 : Cond.fieldLink RX10 102 "LightMan$Tunnel" "z" "I" ∈ wsX10_seed := List.mem_of_getElem? (i := 2) rfl
  refine lv_aload_n hx hb dX10_seed_0 rfl (lv_at hl 0 rfl) ?_
  refine rg hf hk hw hinX10 0 rfl rfl 1 (by decide) w_0 rfl dX10_seed_1 ?_
  refine rg hf hk hw hinX8 1 rfl rfl 10 (by decide) w_1 rfl dX10_seed_4 ?_
  refine lv_istore_n (lv' := [(2, .int z), (0, .ref lh), (1, .int v)]) hx hb dX10_seed_7 rfl hl (by decide) rfl (fun ls hl => ?_)
  refine lv_aload_n hx hb dX10_seed_8 rfl (lv_at hl 1 rfl) ?_
  refine rg hf hk hw hinX10 0 rfl rfl 1 (by decide) w_0 rfl dX10_seed_9 ?_
  refine lv_iload_n hx hb dX10_seed_12 rfl (lv_at hl 2 rfl) ?_
  refine rp hf hk hw hinX8 tyX8 tyX8_ok nmX8 1 rfl rfl 10 (by decide) w_1 rfl (rfl) rfl (Nat.le_of_ble_eq_true rfl) dX10_seed_13 (W' := [cob lh 10 [.ref ak, .ref t, .ref yt, .ref xt, .int isk, .ref ltp, .ref lrw, .int (nI rc), .ref lac, .ref lsh, .ref lhh, .ref lhg, .ref lhr], cob t 8 [.ref ak, .ref tl, .ref tf, .ref ta, .ref tk, .ref tg, .ref tp, .ref tm, .int (nI cnt), .int (nI stp), .int v]]) rfl (fun H locs hw => ?_)
  refine lv_iload_n hx hb dX10_seed_16 rfl (lv_at hl 0 rfl) ?_
  exact rE_i hf hr hlk hw ⟨rfl, rfl⟩ (show ([lh, t] : List Nat) = [lh, t] from rfl) dX10_seed_17
theorem hdV_X8_copyFrom : yX8_copyFrom.cls = RX8 ∧ yX8_copyFrom.cls ≠ "java/lang/invoke/MethodHandle" ∧ yX8_copyFrom.cls ≠ "java/lang/invoke/VarHandle" ∧ (parseMethodDescriptor yX8_copyFrom.desc).map (fun d => d.parameters.length) = some 1 := by decide +kernel
abbrev rmX10_keep : Room := { frames := 2, cells := 0, slots := 0, locals := 44 }
set_option maxHeartbeats 4000000 in
set_option maxRecDepth 100000 in
theorem c_X10_keep (l : Launch) (g : GG) (lh : Nat) (t : Nat) (tl : Nat) (tf : Nat) (ta : Nat) (tk : Nat) (tg : Nat) (tp : Nat) (tm : Nat) (laws : Nat → Int32) (fogs : Nat → Int32) (arms : Nat → Int32) (kinds : Nat → Int32) (faiths : Nat → Int32) (places : Nat → Int32) (moved : Nat → Int32) (cnt : Nat) (stp : Nat) (z : Int32) (xt : Nat) (yt : Nat) (ytl : Nat) (ytf : Nat) (yta : Nat) (ytk : Nat) (ytg : Nat) (ytp : Nat) (ytm : Nat) (ylaws : Nat → Int32) (yfogs : Nat → Int32) (yarms : Nat → Int32) (ykinds : Nat → Int32) (yfaiths : Nat → Int32) (yplaces : Nat → Int32) (ymoved : Nat → Int32) (ycnt : Nat) (ystp : Nat) (yz : Int32) (ak : Nat) (isk : Int32) (ltp : Nat) (lrw : Nat) (rc : Nat) (lac : Nat) (lsh : Nat) (lhh : Nat) (lhg : Nat) (lhr : Nat) (hc8 : cnt ≤ 8) : mtR l g yX10_keep wsX10_keep rmX10_keep [.ref lh] [cob lh 10 [.ref ak, .ref t, .ref yt, .ref xt, .int isk, .ref ltp, .ref lrw, .int (nI rc), .ref lac, .ref lsh, .ref lhh, .ref lhg, .ref lhr], cob t 8 [.ref ak, .ref tl, .ref tf, .ref ta, .ref tk, .ref tg, .ref tp, .ref tm, .int (nI cnt), .int (nI stp), .int z], cin g tl 4 laws, cin g tf 6 fogs, cin g ta 6 arms, cin g tk 8 kinds, cin g tg 8 faiths, cin g tp 8 places, cin g tm 8 moved, cob yt 8 [.ref ak, .ref ytl, .ref ytf, .ref yta, .ref ytk, .ref ytg, .ref ytp, .ref ytm, .int (nI ycnt), .int (nI ystp), .int yz], cin g ytl 4 ylaws, cin g ytf 6 yfogs, cin g yta 6 yarms, cin g ytk 8 ykinds, cin g ytg 8 yfaiths, cin g ytp 8 yplaces, cin g ytm 8 ymoved] (fun rv W => rv = (some (.int 1)) ∧ W = [cob lh 10 [.ref ak, .ref t, .ref yt, .ref xt, .int 1, .ref ltp, .ref lrw, .int (nI rc), .ref lac, .ref lsh, .ref lhh, .ref lhg, .ref lhr], cob t 8 [.ref ak, .ref tl, .ref tf, .ref ta, .ref tk, .ref tg, .ref tp, .ref tm, .int (nI cnt), .int (nI stp), .int z], cin g tl 4 laws, cin g tf 6 fogs, cin g ta 6 arms, cin g tk 8 kinds, cin g tg 8 faiths, cin g tp 8 places, cin g tm 8 moved, cob yt 8 [.ref ak, .ref ytl, .ref ytf, .ref yta, .ref ytk, .ref ytg, .ref ytp, .ref ytm, .int (nI cnt), .int (nI stp), .int z], cin g ytl 4 laws, cin g ytf 6 fogs, cin g yta 6 arms, cin g ytk 8 (cpT ykinds kinds cnt), cin g ytg 8 (cpT yfaiths faiths cnt), cin g ytp 8 (cpT yplaces places cnt), cin g ytm 8 (cpT ymoved moved cnt)]) := by
  refine mtR.of (cc := cX10_keep) (nL := 1) (ret := (some .int)) (own := RX10) (by decide +kernel) rfl rfl (Nat.le_of_ble_eq_true rfl) (fun p e s m below meth c hf hr hlk _ hk hst hw ls hl => ?_)
  have hx := hf.1
  have hb := hf.2.1
  have hts := hf.2.2.2.2
  have hl : lv_has ls 1 [(0, .ref lh)] := hl
  have hinX10 : ∀ w ∈ u_ws RX10 TX10 13, w ∈ wsX10_keep := fun w h => List.mem_cons_of_mem _ (List.mem_append_left _ (List.mem_append_right _ h))
  have w_0 : Cond.fieldLink RX10 40 "LightMan" "kept" "LLightMan$Tunnel;" ∈ wsX10_keep := List.mem_of_getElem? (i := 1) rfl
  have w_1 : Cond.fieldLink RX10 36 "LightMan" "now" "LLightMan$Tunnel;" ∈ wsX10_keep := List.mem_of_getElem? (i := 2) rfl
  have w_2 : Cond.fieldLink RX10 46 "LightMan" "isKept" "Z" ∈ wsX10_keep := List.mem_of_getElem? (i := 3) rfl
  refine lv_aload_n hx hb dX10_keep_0 rfl (lv_at hl 0 rfl) ?_
  refine rg hf hk hw hinX10 0 rfl rfl 2 (by decide) w_0 rfl dX10_keep_1 ?_
  refine lv_aload_n hx hb dX10_keep_4 rfl (lv_at hl 0 rfl) ?_
  refine rg hf hk hw hinX10 0 rfl rfl 1 (by decide) w_1 rfl dX10_keep_5 ?_
  refine mcV hf hk hst hw (c_X8_copyFrom l g yt ytl ytf yta ytk ytg ytp ytm ylaws yfogs yarms ykinds yfaiths yplaces ymoved ycnt ystp yz t tl tf ta tk tg tp tm laws fogs arms kinds faiths places moved cnt stp z ak (by omega)) (cwV 1 hts gX10_keep_X8_copyFrom rfl rfl rfl hdV_X8_copyFrom ⟨Nat.le_of_ble_eq_true rfl, Nat.le_of_ble_eq_true rfl⟩) [9, 10, 11, 12, 13, 14, 15, 16, 1, 2, 3, 4, 5, 6, 7, 8] rfl rfl 9 rfl rfl rfl hl.1 rfl (Nat.le_of_ble_eq_true rfl) dX10_keep_8 ⟨Nat.zero_le _, Nat.zero_le _⟩ (W' := [cob lh 10 [.ref ak, .ref t, .ref yt, .ref xt, .int isk, .ref ltp, .ref lrw, .int (nI rc), .ref lac, .ref lsh, .ref lhh, .ref lhg, .ref lhr], cob t 8 [.ref ak, .ref tl, .ref tf, .ref ta, .ref tk, .ref tg, .ref tp, .ref tm, .int (nI cnt), .int (nI stp), .int z], cin g tl 4 laws, cin g tf 6 fogs, cin g ta 6 arms, cin g tk 8 kinds, cin g tg 8 faiths, cin g tp 8 places, cin g tm 8 moved, cob yt 8 [.ref ak, .ref ytl, .ref ytf, .ref yta, .ref ytk, .ref ytg, .ref ytp, .ref ytm, .int (nI cnt), .int (nI stp), .int z], cin g ytl 4 laws, cin g ytf 6 fogs, cin g yta 6 arms, cin g ytk 8 (cpT ykinds kinds cnt), cin g ytg 8 (cpT yfaiths faiths cnt), cin g ytp 8 (cpT yplaces places cnt), cin g ytm 8 (cpT ymoved moved cnt)]) rfl (fun H locs hw => ?_)
  refine lv_aload_n hx hb dX10_keep_11 rfl (lv_at hl 0 rfl) ?_
  refine lv_iconst (v := 1) hx hb dX10_keep_12 (by decide) ?_
  refine rp hf hk hw hinX10 tyX10 tyX10_ok nmX10 0 rfl rfl 4 (by decide) w_2 rfl (rfl) rfl (Nat.le_of_ble_eq_true rfl) dX10_keep_13 (W' := [cob lh 10 [.ref ak, .ref t, .ref yt, .ref xt, .int 1, .ref ltp, .ref lrw, .int (nI rc), .ref lac, .ref lsh, .ref lhh, .ref lhg, .ref lhr], cob t 8 [.ref ak, .ref tl, .ref tf, .ref ta, .ref tk, .ref tg, .ref tp, .ref tm, .int (nI cnt), .int (nI stp), .int z], cin g tl 4 laws, cin g tf 6 fogs, cin g ta 6 arms, cin g tk 8 kinds, cin g tg 8 faiths, cin g tp 8 places, cin g tm 8 moved, cob yt 8 [.ref ak, .ref ytl, .ref ytf, .ref yta, .ref ytk, .ref ytg, .ref ytp, .ref ytm, .int (nI cnt), .int (nI stp), .int z], cin g ytl 4 laws, cin g ytf 6 fogs, cin g yta 6 arms, cin g ytk 8 (cpT ykinds kinds cnt), cin g ytg 8 (cpT yfaiths faiths cnt), cin g ytp 8 (cpT yplaces places cnt), cin g ytm 8 (cpT ymoved moved cnt)]) rfl (fun H locs hw => ?_)
  refine lv_iconst (v := 1) hx hb dX10_keep_16 (by decide) ?_
  exact rE_i hf hr hlk hw ⟨rfl, rfl⟩ (show ([lh, t, tl, tf, ta, tk, tg, tp, tm, yt, ytl, ytf, yta, ytk, ytg, ytp, ytm] : List Nat) = [lh, t, tl, tf, ta, tk, tg, tp, tm, yt, ytl, ytf, yta, ytk, ytg, ytp, ytm] from rfl) dX10_keep_17
def f_X10_again (ycnt : Nat) (isk : Int32) : Int32 := if isk = 0 then (-3) else (nI ycnt)
def f_X10_again_w1 (cnt : Nat) (ycnt : Nat) (isk : Int32) : Int32 := if isk = 0 then (nI cnt) else (nI ycnt)
def f_X10_again_w2 (stp : Nat) (ystp : Nat) (isk : Int32) : Int32 := if isk = 0 then (nI stp) else (nI ystp)
def f_X10_again_w3 (z : Int32) (yz : Int32) (isk : Int32) : Int32 := if isk = 0 then z else yz
def f_X10_again_w4 (laws : Nat → Int32) (ylaws : Nat → Int32) (isk : Int32) : Nat → Int32 := if isk = 0 then laws else ylaws
def f_X10_again_w5 (fogs : Nat → Int32) (yfogs : Nat → Int32) (isk : Int32) : Nat → Int32 := if isk = 0 then fogs else yfogs
def f_X10_again_w6 (arms : Nat → Int32) (yarms : Nat → Int32) (isk : Int32) : Nat → Int32 := if isk = 0 then arms else yarms
def f_X10_again_w7 (kinds : Nat → Int32) (ykinds : Nat → Int32) (ycnt : Nat) (isk : Int32) : Nat → Int32 := if isk = 0 then kinds else (cpT kinds ykinds ycnt)
def f_X10_again_w8 (faiths : Nat → Int32) (yfaiths : Nat → Int32) (ycnt : Nat) (isk : Int32) : Nat → Int32 := if isk = 0 then faiths else (cpT faiths yfaiths ycnt)
def f_X10_again_w9 (places : Nat → Int32) (yplaces : Nat → Int32) (ycnt : Nat) (isk : Int32) : Nat → Int32 := if isk = 0 then places else (cpT places yplaces ycnt)
def f_X10_again_w10 (moved : Nat → Int32) (ymoved : Nat → Int32) (ycnt : Nat) (isk : Int32) : Nat → Int32 := if isk = 0 then moved else (cpT moved ymoved ycnt)
abbrev rmX10_again : Room := { frames := 2, cells := 0, slots := 0, locals := 44 }
set_option maxHeartbeats 4000000 in
set_option maxRecDepth 100000 in
theorem c_X10_again (l : Launch) (g : GG) (lh : Nat) (t : Nat) (tl : Nat) (tf : Nat) (ta : Nat) (tk : Nat) (tg : Nat) (tp : Nat) (tm : Nat) (laws : Nat → Int32) (fogs : Nat → Int32) (arms : Nat → Int32) (kinds : Nat → Int32) (faiths : Nat → Int32) (places : Nat → Int32) (moved : Nat → Int32) (cnt : Nat) (stp : Nat) (z : Int32) (xt : Nat) (yt : Nat) (ytl : Nat) (ytf : Nat) (yta : Nat) (ytk : Nat) (ytg : Nat) (ytp : Nat) (ytm : Nat) (ylaws : Nat → Int32) (yfogs : Nat → Int32) (yarms : Nat → Int32) (ykinds : Nat → Int32) (yfaiths : Nat → Int32) (yplaces : Nat → Int32) (ymoved : Nat → Int32) (ycnt : Nat) (ystp : Nat) (yz : Int32) (ak : Nat) (isk : Int32) (ltp : Nat) (lrw : Nat) (rc : Nat) (lac : Nat) (lsh : Nat) (lhh : Nat) (lhg : Nat) (lhr : Nat) (hyc8 : ycnt ≤ 8) : mtR l g yX10_again wsX10_again rmX10_again [.ref lh] [cob lh 10 [.ref ak, .ref t, .ref yt, .ref xt, .int isk, .ref ltp, .ref lrw, .int (nI rc), .ref lac, .ref lsh, .ref lhh, .ref lhg, .ref lhr], cob t 8 [.ref ak, .ref tl, .ref tf, .ref ta, .ref tk, .ref tg, .ref tp, .ref tm, .int (nI cnt), .int (nI stp), .int z], cin g tl 4 laws, cin g tf 6 fogs, cin g ta 6 arms, cin g tk 8 kinds, cin g tg 8 faiths, cin g tp 8 places, cin g tm 8 moved, cob yt 8 [.ref ak, .ref ytl, .ref ytf, .ref yta, .ref ytk, .ref ytg, .ref ytp, .ref ytm, .int (nI ycnt), .int (nI ystp), .int yz], cin g ytl 4 ylaws, cin g ytf 6 yfogs, cin g yta 6 yarms, cin g ytk 8 ykinds, cin g ytg 8 yfaiths, cin g ytp 8 yplaces, cin g ytm 8 ymoved] (fun rv W => rv = (some (.int (f_X10_again ycnt isk))) ∧ W = [cob lh 10 [.ref ak, .ref t, .ref yt, .ref xt, .int isk, .ref ltp, .ref lrw, .int (nI rc), .ref lac, .ref lsh, .ref lhh, .ref lhg, .ref lhr], cob t 8 [.ref ak, .ref tl, .ref tf, .ref ta, .ref tk, .ref tg, .ref tp, .ref tm, .int (f_X10_again_w1 cnt ycnt isk), .int (f_X10_again_w2 stp ystp isk), .int (f_X10_again_w3 z yz isk)], cin g tl 4 (f_X10_again_w4 laws ylaws isk), cin g tf 6 (f_X10_again_w5 fogs yfogs isk), cin g ta 6 (f_X10_again_w6 arms yarms isk), cin g tk 8 (f_X10_again_w7 kinds ykinds ycnt isk), cin g tg 8 (f_X10_again_w8 faiths yfaiths ycnt isk), cin g tp 8 (f_X10_again_w9 places yplaces ycnt isk), cin g tm 8 (f_X10_again_w10 moved ymoved ycnt isk), cob yt 8 [.ref ak, .ref ytl, .ref ytf, .ref yta, .ref ytk, .ref ytg, .ref ytp, .ref ytm, .int (nI ycnt), .int (nI ystp), .int yz], cin g ytl 4 ylaws, cin g ytf 6 yfogs, cin g yta 6 yarms, cin g ytk 8 ykinds, cin g ytg 8 yfaiths, cin g ytp 8 yplaces, cin g ytm 8 ymoved]) := by
  refine mtR.of (cc := cX10_again) (nL := 1) (ret := (some .int)) (own := RX10) (by decide +kernel) rfl rfl (Nat.le_of_ble_eq_true rfl) (fun p e s m below meth c hf hr hlk _ hk hst hw ls hl => ?_)
  have hx := hf.1
  have hb := hf.2.1
  have hts := hf.2.2.2.2
  have hl : lv_has ls 1 [(0, .ref lh)] := hl
  have hinX10 : ∀ w ∈ u_ws RX10 TX10 13, w ∈ wsX10_again := fun w h => List.mem_cons_of_mem _ (List.mem_append_left _ (List.mem_append_right _ h))
  have w_0 : Cond.fieldLink RX10 46 "LightMan" "isKept" "Z" ∈ wsX10_again := List.mem_of_getElem? (i := 1) rfl
  have w_1 : Cond.fieldLink RX10 36 "LightMan" "now" "LLightMan$Tunnel;" ∈ wsX10_again := List.mem_of_getElem? (i := 2) rfl
  have w_2 : Cond.fieldLink RX10 40 "LightMan" "kept" "LLightMan$Tunnel;" ∈ wsX10_again := List.mem_of_getElem? (i := 3) rfl
  have hinX8 : ∀ w ∈ u_ws RX8 TX8 11, w ∈ wsX10_again := fun w h => List.mem_cons_of_mem _ (List.mem_append_right _ h)
  have w_3 : Cond.fieldLink RX10 109 "LightMan$Tunnel" "count" "I" ∈ wsX10_again := List.mem_of_getElem? (i := 4) rfl
  refine lv_aload_n hx hb dX10_again_0 rfl (lv_at hl 0 rfl) ?_
  refine rg hf hk hw hinX10 0 rfl rfl 4 (by decide) w_0 rfl dX10_again_1 ?_
  refine lv_if_ne (tgt := 10) hx hb dX10_again_4 (by decide) (fun c_1 => ?_) (fun c_1 => ?_)
  · refine lv_aload_n hx hb dX10_again_10 rfl (lv_at hl 0 rfl) ?_
    refine rg hf hk hw hinX10 0 rfl rfl 1 (by decide) w_1 rfl dX10_again_11 ?_
    refine lv_aload_n hx hb dX10_again_14 rfl (lv_at hl 0 rfl) ?_
    refine rg hf hk hw hinX10 0 rfl rfl 2 (by decide) w_2 rfl dX10_again_15 ?_
    refine mcV hf hk hst hw (c_X8_copyFrom l g t tl tf ta tk tg tp tm laws fogs arms kinds faiths places moved cnt stp z yt ytl ytf yta ytk ytg ytp ytm ylaws yfogs yarms ykinds yfaiths yplaces ymoved ycnt ystp yz ak (by omega)) (cwV 1 hts gX10_again_X8_copyFrom rfl rfl rfl hdV_X8_copyFrom ⟨Nat.le_of_ble_eq_true rfl, Nat.le_of_ble_eq_true rfl⟩) [1, 2, 3, 4, 5, 6, 7, 8, 9, 10, 11, 12, 13, 14, 15, 16] rfl rfl 1 rfl rfl rfl hl.1 rfl (Nat.le_of_ble_eq_true rfl) dX10_again_18 ⟨Nat.zero_le _, Nat.zero_le _⟩ (W' := [cob lh 10 [.ref ak, .ref t, .ref yt, .ref xt, .int isk, .ref ltp, .ref lrw, .int (nI rc), .ref lac, .ref lsh, .ref lhh, .ref lhg, .ref lhr], cob t 8 [.ref ak, .ref tl, .ref tf, .ref ta, .ref tk, .ref tg, .ref tp, .ref tm, .int (nI ycnt), .int (nI ystp), .int yz], cin g tl 4 ylaws, cin g tf 6 yfogs, cin g ta 6 yarms, cin g tk 8 (cpT kinds ykinds ycnt), cin g tg 8 (cpT faiths yfaiths ycnt), cin g tp 8 (cpT places yplaces ycnt), cin g tm 8 (cpT moved ymoved ycnt), cob yt 8 [.ref ak, .ref ytl, .ref ytf, .ref yta, .ref ytk, .ref ytg, .ref ytp, .ref ytm, .int (nI ycnt), .int (nI ystp), .int yz], cin g ytl 4 ylaws, cin g ytf 6 yfogs, cin g yta 6 yarms, cin g ytk 8 ykinds, cin g ytg 8 yfaiths, cin g ytp 8 yplaces, cin g ytm 8 ymoved]) rfl (fun H locs hw => ?_)
    refine lv_aload_n hx hb dX10_again_21 rfl (lv_at hl 0 rfl) ?_
    refine rg hf hk hw hinX10 0 rfl rfl 1 (by decide) w_1 rfl dX10_again_22 ?_
    refine rg hf hk hw hinX8 1 rfl rfl 8 (by decide) w_3 rfl dX10_again_25 ?_
    exact rE_i hf hr hlk hw ⟨congrArg some (by simp only [f_X10_again, if_neg c_1]), by simp only [f_X10_again_w1, f_X10_again_w2, f_X10_again_w3, f_X10_again_w4, f_X10_again_w5, f_X10_again_w6, f_X10_again_w7, f_X10_again_w8, f_X10_again_w9, f_X10_again_w10, if_neg c_1]⟩ (show ([lh, t, tl, tf, ta, tk, tg, tp, tm, yt, ytl, ytf, yta, ytk, ytg, ytp, ytm] : List Nat) = [lh, t, tl, tf, ta, tk, tg, tp, tm, yt, ytl, ytf, yta, ytk, ytg, ytp, ytm] from rfl) dX10_again_28
  · refine lv_bipush (v := (-3)) hx hb dX10_again_7 (by decide) ?_
    exact rE_i hf hr hlk hw ⟨congrArg some (by simp only [f_X10_again, if_pos c_1]), by simp only [f_X10_again_w1, f_X10_again_w2, f_X10_again_w3, f_X10_again_w4, f_X10_again_w5, f_X10_again_w6, f_X10_again_w7, f_X10_again_w8, f_X10_again_w9, f_X10_again_w10, if_pos c_1]⟩ (show ([lh, t, tl, tf, ta, tk, tg, tp, tm, yt, ytl, ytf, yta, ytk, ytg, ytp, ytm] : List Nat) = [lh, t, tl, tf, ta, tk, tg, tp, tm, yt, ytl, ytf, yta, ytk, ytg, ytp, ytm] from rfl) dX10_again_9
