theorem rdN_le {byt : Nat → Int32} {tsz we : Nat} {most : Int32} : 0 ≤ rdN byt tsz we most → rdN byt tsz we most ≤ most := by
  unfold rdN
  split
  · split
    · split
      · intro _; assumption
      · intro h; exact absurd h (by decide)
    · intro h; exact absurd h (by decide)
  · intro h; exact absurd h (by decide)
theorem rdN_n {byt : Nat → Int32} {tsz we N : Nat} {most : Int32} (hM : most.toInt = N) (hN : N < 1000) (h : 0 ≤ rdN byt tsz we most) : rdN byt tsz we most = nI (ix (rdN byt tsz we most)) ∧ ix (rdN byt tsz we most) ≤ N := by
  obtain ⟨j, hj, e⟩ := nI_of2 hM (Int32.not_lt.mpr h) (rdN_le h)
  rw [e]
  have : ix (nI j) = j := nI_clamp (by omega)
  rw [this]
  exact ⟨rfl, hj⟩
theorem sm_z (tso : Int32) (ws : Nat) (byt : Nat → Int32) : narrow .boolean (.int (f_X7_isSemicolon tso ws byt)) = .int (f_X7_isSemicolon tso ws byt) := by
  unfold f_X7_isSemicolon
  split
  · split <;> rfl
  · rfl
theorem hdV_X7_readNumber : yX7_readNumber.cls = RX7 ∧ yX7_readNumber.cls ≠ "java/lang/invoke/MethodHandle" ∧ yX7_readNumber.cls ≠ "java/lang/invoke/VarHandle" ∧ (parseMethodDescriptor yX7_readNumber.desc).map (fun d => d.parameters.length) = some 1 := by decide +kernel
theorem hdV_X7_isSemicolon : yX7_isSemicolon.cls = RX7 ∧ yX7_isSemicolon.cls ≠ "java/lang/invoke/MethodHandle" ∧ yX7_isSemicolon.cls ≠ "java/lang/invoke/VarHandle" ∧ (parseMethodDescriptor yX7_isSemicolon.desc).map (fun d => d.parameters.length) = some 0 := by decide +kernel
def f_X7_readLaw (tsz : Nat) (byt : Nat → Int32) (x0 : Nat) (lw : Nat) : Int32 := if 0 ≤ (rdN byt tsz (wdE byt tsz x0) (tq_most lw)) then (f_X7_isSemicolon (wdO byt tsz (wdE byt tsz (wdE byt tsz x0))) (wdS byt tsz (wdE byt tsz (wdE byt tsz x0))) byt) else 0
def f_X7_readLaw_x (tsz : Nat) (byt : Nat → Int32) (x0 : Nat) (lw : Nat) : Nat := if 0 ≤ (rdN byt tsz (wdE byt tsz x0) (tq_most lw)) then (wdE byt tsz (wdE byt tsz x0)) else (wdE byt tsz x0)
def f_X7_readLaw_w1 (tsz : Nat) (byt : Nat → Int32) (x0 : Nat) (laws : Nat → Int32) (lw : Nat) : Nat → Int32 := if 0 ≤ (rdN byt tsz (wdE byt tsz x0) (tq_most lw)) then (upd laws lw (rdN byt tsz (wdE byt tsz x0) (tq_most lw))) else laws
abbrev rmX7_readLaw : Room := { frames := 3, cells := 0, slots := 0, locals := 64 }
set_option maxHeartbeats 4000000 in
set_option maxRecDepth 100000 in
theorem c_X7_readLaw (l : Launch) (g : GG) (ltp : Nat) (lby : Nat) (tsz : Nat) (byt : Nat → Int32) (x0 : Nat) (t : Nat) (tl : Nat) (tf : Nat) (ta : Nat) (tk : Nat) (tg : Nat) (tp : Nat) (tm : Nat) (laws : Nat → Int32) (cnt : Nat) (stp : Nat) (z : Int32) (ak : Nat) (lw : Nat) (hx0 : x0 ≤ tsz) (htz : tsz ≤ 200) (hlw : lw < 4) : mt l g yX7_readLaw wsX7_readLaw rmX7_readLaw [.ref ltp, .ref t, .int (nI lw)] [cob ltp 7 [.ref lby, .int (nI tsz), .int (wdO byt tsz x0), .int (nI (wdS byt tsz x0)), .int (nI (wdE byt tsz x0))], cby g lby 200 byt, cob t 8 [.ref ak, .ref tl, .ref tf, .ref ta, .ref tk, .ref tg, .ref tp, .ref tm, .int (nI cnt), .int (nI stp), .int z], cin g tl 4 laws] (some (.int (f_X7_readLaw tsz byt x0 lw))) [cob ltp 7 [.ref lby, .int (nI tsz), .int (wdO byt tsz (f_X7_readLaw_x tsz byt x0 lw)), .int (nI (wdS byt tsz (f_X7_readLaw_x tsz byt x0 lw))), .int (nI (wdE byt tsz (f_X7_readLaw_x tsz byt x0 lw)))], cby g lby 200 byt, cob t 8 [.ref ak, .ref tl, .ref tf, .ref ta, .ref tk, .ref tg, .ref tp, .ref tm, .int (nI cnt), .int (nI stp), .int z], cin g tl 4 (f_X7_readLaw_w1 tsz byt x0 laws lw)] := by
  refine mt.of (cc := cX7_readLaw) (nL := 4) (ret := (some .boolean)) (own := RX7) (by decide +kernel) rfl rfl (show ([ltp, lby, t, tl] : List Nat) = [ltp, lby, t, tl] from rfl) (Nat.le_of_ble_eq_true rfl) (fun p e s m below meth c hf hr hlk _ hk hst hw ls hl => ?_)
  have hx := hf.1
  have hb := hf.2.1
  have hts := hf.2.2.2.2
  have hl : lv_has ls 4 [(0, .ref ltp), (1, .ref t), (2, .int (nI lw))] := hl
  have h1 := wdE_b byt htz hx0
  have h2 := wdE_b byt htz h1.2
  have h3 := wdE_b byt htz h2.2
  have h4 := wdE_b byt htz h3.2
  have h5 := wdE_b byt htz h4.2
  have hinX8 : ∀ w ∈ u_ws RX8 TX8 11, w ∈ wsX7_readLaw := fun w h => List.mem_cons_of_mem _ (List.mem_append_left _ (List.mem_append_right _ h))
  have w_0 : Cond.fieldLink RX7 96 "LightMan$Tunnel" "laws" "[I" ∈ wsX7_readLaw := List.mem_of_getElem? (i := 1) rfl
  refine lv_aload_n hx hb dX7_readLaw_0 rfl (lv_at hl 0 rfl) ?_
  refine va_getsN hx hb hst.1.1 hw.2.2 hf.2.2.2.1 (va_Nw.use rfl hk.2.2.1.1) (fun _ h => h) dX7_readLaw_1 ?_
  refine lv_iload_n hx hb dX7_readLaw_4 rfl (lv_at hl 2 rfl) ?_
  refine va_ti hx hb hst.1.2 hw.2.2 (v := .int (tq_most lw)) (vp_in_nI (by omega) (by omega)) (congrArg (fun j => Value.int (tq_most j)) (nI_clamp (by omega))) dX7_readLaw_5 ?_
  refine mcV hf hk hst hw (c_X7_readNumber l g ltp lby tsz (wdO byt tsz x0) (wdS byt tsz x0) (wdE byt tsz x0) byt (tq_most lw) (by omega) (by omega)) (cwV 1 hts gX7_readLaw_X7_readNumber rfl rfl rfl hdV_X7_readNumber ⟨Nat.le_of_ble_eq_true rfl, Nat.le_of_ble_eq_true rfl⟩) [0, 1] rfl rfl 0 rfl rfl rfl hl.1 rfl (Nat.le_of_ble_eq_true rfl) dX7_readLaw_6 ⟨Nat.zero_le _, Nat.zero_le _⟩ (W' := [cob ltp 7 [.ref lby, .int (nI tsz), .int (wdO byt tsz (wdE byt tsz x0)), .int (nI (wdS byt tsz (wdE byt tsz x0))), .int (nI (wdE byt tsz (wdE byt tsz x0)))], cby g lby 200 byt, cob t 8 [.ref ak, .ref tl, .ref tf, .ref ta, .ref tk, .ref tg, .ref tp, .ref tm, .int (nI cnt), .int (nI stp), .int z], cin g tl 4 laws]) rfl (fun H locs hw => ?_)
  refine lv_istore_n (lv' := [(3, .int (rdN byt tsz (wdE byt tsz x0) (tq_most lw))), (0, .ref ltp), (1, .ref t), (2, .int (nI lw))]) hx hb dX7_readLaw_9 rfl hl (by decide) rfl (fun ls hl => ?_)
  refine lv_iload_n hx hb dX7_readLaw_10 rfl (lv_at hl 0 rfl) ?_
  refine lv_if_ge (tgt := 16) hx hb dX7_readLaw_11 (by decide) (fun c_1 => ?_) (fun c_1 => ?_)
  · refine lv_aload_n hx hb dX7_readLaw_16 rfl (lv_at hl 2 rfl) ?_
    refine rg hf hk hw hinX8 2 rfl rfl 1 (by decide) w_0 rfl dX7_readLaw_17 ?_
    refine lv_iload_n hx hb dX7_readLaw_20 rfl (lv_at hl 3 rfl) ?_
    refine lv_iload_n hx hb dX7_readLaw_21 rfl (lv_at hl 0 rfl) ?_
    refine rsj hf hk hw 3 rfl (j := lw) (vp_in_nI (by omega) (by omega)) (nI_clamp (by omega)) dX7_readLaw_22 (W' := [cob ltp 7 [.ref lby, .int (nI tsz), .int (wdO byt tsz (wdE byt tsz x0)), .int (nI (wdS byt tsz (wdE byt tsz x0))), .int (nI (wdE byt tsz (wdE byt tsz x0)))], cby g lby 200 byt, cob t 8 [.ref ak, .ref tl, .ref tf, .ref ta, .ref tk, .ref tg, .ref tp, .ref tm, .int (nI cnt), .int (nI stp), .int z], cin g tl 4 (upd laws lw (rdN byt tsz (wdE byt tsz x0) (tq_most lw)))]) rfl (fun H locs hw => ?_)
    refine lv_aload_n hx hb dX7_readLaw_23 rfl (lv_at hl 1 rfl) ?_
    refine mcV hf hk hst hw (c_X7_readWord l g ltp lby tsz (wdO byt tsz (wdE byt tsz x0)) (wdE byt tsz (wdE byt tsz x0)) byt (nI (wdS byt tsz (wdE byt tsz x0))) (by omega) (by omega)) (cwV 0 hts gX7_readLaw_X7_readWord rfl rfl rfl hdV_X7_readWord ⟨Nat.le_of_ble_eq_true rfl, Nat.le_of_ble_eq_true rfl⟩) [0, 1] rfl rfl 0 rfl rfl rfl hl.1 rfl (Nat.le_of_ble_eq_true rfl) dX7_readLaw_24 ⟨Nat.zero_le _, Nat.zero_le _⟩ (W' := [cob ltp 7 [.ref lby, .int (nI tsz), .int (wdO byt tsz (wdE byt tsz (wdE byt tsz x0))), .int (nI (wdS byt tsz (wdE byt tsz (wdE byt tsz x0)))), .int (nI (wdE byt tsz (wdE byt tsz (wdE byt tsz x0))))], cby g lby 200 byt, cob t 8 [.ref ak, .ref tl, .ref tf, .ref ta, .ref tk, .ref tg, .ref tp, .ref tm, .int (nI cnt), .int (nI stp), .int z], cin g tl 4 (upd laws lw (rdN byt tsz (wdE byt tsz x0) (tq_most lw)))]) rfl (fun H locs hw => ?_)
    refine lv_aload_n hx hb dX7_readLaw_27 rfl (lv_at hl 1 rfl) ?_
    refine mcV hf hk hst hw (c_X7_isSemicolon l g ltp lby tsz (wdO byt tsz (wdE byt tsz (wdE byt tsz x0))) (wdS byt tsz (wdE byt tsz (wdE byt tsz x0))) (wdE byt tsz (wdE byt tsz (wdE byt tsz x0))) byt (wdO_b byt htz (by omega))) (cwV 0 hts gX7_readLaw_X7_isSemicolon rfl rfl rfl hdV_X7_isSemicolon ⟨Nat.le_of_ble_eq_true rfl, Nat.le_of_ble_eq_true rfl⟩) [0, 1] rfl rfl 0 rfl rfl rfl hl.1 rfl (Nat.le_of_ble_eq_true rfl) dX7_readLaw_28 ⟨Nat.zero_le _, Nat.zero_le _⟩ (W' := [cob ltp 7 [.ref lby, .int (nI tsz), .int (wdO byt tsz (wdE byt tsz (wdE byt tsz x0))), .int (nI (wdS byt tsz (wdE byt tsz (wdE byt tsz x0)))), .int (nI (wdE byt tsz (wdE byt tsz (wdE byt tsz x0))))], cby g lby 200 byt, cob t 8 [.ref ak, .ref tl, .ref tf, .ref ta, .ref tk, .ref tg, .ref tp, .ref tm, .int (nI cnt), .int (nI stp), .int z], cin g tl 4 (upd laws lw (rdN byt tsz (wdE byt tsz x0) (tq_most lw)))]) rfl (fun H locs hw => ?_)
    exact re_z hf hr hlk hw (sm_z _ _ _) (by simp only [f_X7_readLaw, if_pos c_1]) (by simp only [f_X7_readLaw_x, f_X7_readLaw_w1, if_pos c_1]) dX7_readLaw_31
  · refine lv_iconst (v := 0) hx hb dX7_readLaw_14 (by decide) ?_
    exact re_z hf hr hlk hw (rfl) (by simp only [f_X7_readLaw, if_neg c_1]) (by simp only [f_X7_readLaw_x, f_X7_readLaw_w1, if_neg c_1]) dX7_readLaw_15
def f_X7_readRoster (tsz : Nat) (byt : Nat → Int32) (x0 : Nat) : Int32 := if 0 ≤ (rdN byt tsz (wdE byt tsz x0) 5) then (if (nmR byt (wdO byt tsz (wdE byt tsz (wdE byt tsz x0))) (wdS byt tsz (wdE byt tsz (wdE byt tsz x0))) (wdE byt tsz (wdE byt tsz (wdE byt tsz x0))) 13) = 0 then 0 else (if 0 ≤ (rdN byt tsz (wdE byt tsz (wdE byt tsz (wdE byt tsz x0))) 9) then (f_X7_isSemicolon (wdO byt tsz (wdE byt tsz (wdE byt tsz (wdE byt tsz (wdE byt tsz x0))))) (wdS byt tsz (wdE byt tsz (wdE byt tsz (wdE byt tsz (wdE byt tsz x0))))) byt) else 0)) else 0
def f_X7_readRoster_x (tsz : Nat) (byt : Nat → Int32) (x0 : Nat) : Nat := if 0 ≤ (rdN byt tsz (wdE byt tsz x0) 5) then (if (nmR byt (wdO byt tsz (wdE byt tsz (wdE byt tsz x0))) (wdS byt tsz (wdE byt tsz (wdE byt tsz x0))) (wdE byt tsz (wdE byt tsz (wdE byt tsz x0))) 13) = 0 then (wdE byt tsz (wdE byt tsz x0)) else (if 0 ≤ (rdN byt tsz (wdE byt tsz (wdE byt tsz (wdE byt tsz x0))) 9) then (wdE byt tsz (wdE byt tsz (wdE byt tsz (wdE byt tsz x0)))) else (wdE byt tsz (wdE byt tsz (wdE byt tsz x0))))) else (wdE byt tsz x0)
def f_X7_readRoster_w1 (tsz : Nat) (byt : Nat → Int32) (x0 : Nat) (fl : Nat → Int32) : Nat → Int32 := if 0 ≤ (rdN byt tsz (wdE byt tsz x0) 5) then (if (nmR byt (wdO byt tsz (wdE byt tsz (wdE byt tsz x0))) (wdS byt tsz (wdE byt tsz (wdE byt tsz x0))) (wdE byt tsz (wdE byt tsz (wdE byt tsz x0))) 13) = 0 then fl else (if 0 ≤ (rdN byt tsz (wdE byt tsz (wdE byt tsz (wdE byt tsz x0))) 9) then (upd fl (ix (rdN byt tsz (wdE byt tsz x0) 5)) (rdN byt tsz (wdE byt tsz (wdE byt tsz (wdE byt tsz x0))) 9)) else fl)) else fl
abbrev rmX7_readRoster : Room := { frames := 5, cells := 0, slots := 0, locals := 107 }
set_option maxHeartbeats 4000000 in
set_option maxRecDepth 100000 in
theorem c_X7_readRoster (l : Launch) (g : GG) (ltp : Nat) (lby : Nat) (tsz : Nat) (byt : Nat → Int32) (x0 : Nat) (la : Nat) (fl : Nat → Int32) (hx0 : x0 ≤ tsz) (htz : tsz ≤ 200) : mt l g yX7_readRoster wsX7_readRoster rmX7_readRoster [.ref ltp, .ref la] [cob ltp 7 [.ref lby, .int (nI tsz), .int (wdO byt tsz x0), .int (nI (wdS byt tsz x0)), .int (nI (wdE byt tsz x0))], cby g lby 200 byt, cin g la 6 fl] (some (.int (f_X7_readRoster tsz byt x0))) [cob ltp 7 [.ref lby, .int (nI tsz), .int (wdO byt tsz (f_X7_readRoster_x tsz byt x0)), .int (nI (wdS byt tsz (f_X7_readRoster_x tsz byt x0))), .int (nI (wdE byt tsz (f_X7_readRoster_x tsz byt x0)))], cby g lby 200 byt, cin g la 6 (f_X7_readRoster_w1 tsz byt x0 fl)] := by
  refine mt.of (cc := cX7_readRoster) (nL := 4) (ret := (some .boolean)) (own := RX7) (by decide +kernel) rfl rfl (show ([ltp, lby, la] : List Nat) = [ltp, lby, la] from rfl) (Nat.le_of_ble_eq_true rfl) (fun p e s m below meth c hf hr hlk _ hk hst hw ls hl => ?_)
  have hx := hf.1
  have hb := hf.2.1
  have hts := hf.2.2.2.2
  have hl : lv_has ls 4 [(0, .ref ltp), (1, .ref la)] := hl
  have h1 := wdE_b byt htz hx0
  have h2 := wdE_b byt htz h1.2
  have h3 := wdE_b byt htz h2.2
  have h4 := wdE_b byt htz h3.2
  have h5 := wdE_b byt htz h4.2
  refine lv_aload_n hx hb dX7_readRoster_0 rfl (lv_at hl 0 rfl) ?_
  refine lv_iconst (v := 5) hx hb dX7_readRoster_1 (by decide) ?_
  refine mcV hf hk hst hw (c_X7_readNumber l g ltp lby tsz (wdO byt tsz x0) (wdS byt tsz x0) (wdE byt tsz x0) byt 5 (by omega) (by omega)) (cwV 1 hts gX7_readRoster_X7_readNumber rfl rfl rfl hdV_X7_readNumber ⟨Nat.le_of_ble_eq_true rfl, Nat.le_of_ble_eq_true rfl⟩) [0, 1] rfl rfl 0 rfl rfl rfl hl.1 rfl (Nat.le_of_ble_eq_true rfl) dX7_readRoster_2 ⟨Nat.zero_le _, Nat.zero_le _⟩ (W' := [cob ltp 7 [.ref lby, .int (nI tsz), .int (wdO byt tsz (wdE byt tsz x0)), .int (nI (wdS byt tsz (wdE byt tsz x0))), .int (nI (wdE byt tsz (wdE byt tsz x0)))], cby g lby 200 byt, cin g la 6 fl]) rfl (fun H locs hw => ?_)
  refine lv_istore_n (lv' := [(2, .int (rdN byt tsz (wdE byt tsz x0) 5)), (0, .ref ltp), (1, .ref la)]) hx hb dX7_readRoster_5 rfl hl (by decide) rfl (fun ls hl => ?_)
  refine lv_iload_n hx hb dX7_readRoster_6 rfl (lv_at hl 0 rfl) ?_
  refine lv_if_ge (tgt := 12) hx hb dX7_readRoster_7 (by decide) (fun c_1 => ?_) (fun c_1 => ?_)
  · have hr1 := rdN_n (N := 5) rfl (by decide) c_1
    have hr2 := hr1.2
    refine lv_aload_n hx hb dX7_readRoster_12 rfl (lv_at hl 1 rfl) ?_
    refine mcV hf hk hst hw (c_X7_readWord l g ltp lby tsz (wdO byt tsz (wdE byt tsz x0)) (wdE byt tsz (wdE byt tsz x0)) byt (nI (wdS byt tsz (wdE byt tsz x0))) (by omega) (by omega)) (cwV 0 hts gX7_readRoster_X7_readWord rfl rfl rfl hdV_X7_readWord ⟨Nat.le_of_ble_eq_true rfl, Nat.le_of_ble_eq_true rfl⟩) [0, 1] rfl rfl 0 rfl rfl rfl hl.1 rfl (Nat.le_of_ble_eq_true rfl) dX7_readRoster_13 ⟨Nat.zero_le _, Nat.zero_le _⟩ (W' := [cob ltp 7 [.ref lby, .int (nI tsz), .int (wdO byt tsz (wdE byt tsz (wdE byt tsz x0))), .int (nI (wdS byt tsz (wdE byt tsz (wdE byt tsz x0)))), .int (nI (wdE byt tsz (wdE byt tsz (wdE byt tsz x0))))], cby g lby 200 byt, cin g la 6 fl]) rfl (fun H locs hw => ?_)
    refine lv_aload_n hx hb dX7_readRoster_16 rfl (lv_at hl 1 rfl) ?_
    refine va_ldcS hx hb hf.2.2.2.1 (show vk_R RX7 91 "is" (gA g 13) s from hk.2.2.2.1 13 (by decide)) dX7_readRoster_17 ?_
    refine mcV hf hk hst hw (c_X7_isName l g ltp lby tsz (wdO byt tsz (wdE byt tsz (wdE byt tsz x0))) (wdS byt tsz (wdE byt tsz (wdE byt tsz x0))) (wdE byt tsz (wdE byt tsz (wdE byt tsz x0))) byt 13 (by omega) (by omega) (by decide)) (cwV 1 hts gX7_readRoster_X7_isName rfl rfl rfl hdV_X7_isName ⟨Nat.le_of_ble_eq_true rfl, Nat.le_of_ble_eq_true rfl⟩) [0, 1] rfl rfl 0 rfl rfl rfl hl.1 rfl (Nat.le_of_ble_eq_true rfl) dX7_readRoster_19 ⟨Nat.zero_le _, Nat.zero_le _⟩ (W' := [cob ltp 7 [.ref lby, .int (nI tsz), .int (wdO byt tsz (wdE byt tsz (wdE byt tsz x0))), .int (nI (wdS byt tsz (wdE byt tsz (wdE byt tsz x0)))), .int (nI (wdE byt tsz (wdE byt tsz (wdE byt tsz x0))))], cby g lby 200 byt, cin g la 6 fl]) rfl (fun H locs hw => ?_)
    refine lv_if_ne (tgt := 27) hx hb dX7_readRoster_22 (by decide) (fun c_2 => ?_) (fun c_2 => ?_)
    · refine lv_aload_n hx hb dX7_readRoster_27 rfl (lv_at hl 1 rfl) ?_
      refine lv_bipush (v := 9) hx hb dX7_readRoster_28 (by decide) ?_
      refine mcV hf hk hst hw (c_X7_readNumber l g ltp lby tsz (wdO byt tsz (wdE byt tsz (wdE byt tsz x0))) (wdS byt tsz (wdE byt tsz (wdE byt tsz x0))) (wdE byt tsz (wdE byt tsz (wdE byt tsz x0))) byt 9 (by omega) (by omega)) (cwV 1 hts gX7_readRoster_X7_readNumber rfl rfl rfl hdV_X7_readNumber ⟨Nat.le_of_ble_eq_true rfl, Nat.le_of_ble_eq_true rfl⟩) [0, 1] rfl rfl 0 rfl rfl rfl hl.1 rfl (Nat.le_of_ble_eq_true rfl) dX7_readRoster_30 ⟨Nat.zero_le _, Nat.zero_le _⟩ (W' := [cob ltp 7 [.ref lby, .int (nI tsz), .int (wdO byt tsz (wdE byt tsz (wdE byt tsz (wdE byt tsz x0)))), .int (nI (wdS byt tsz (wdE byt tsz (wdE byt tsz (wdE byt tsz x0))))), .int (nI (wdE byt tsz (wdE byt tsz (wdE byt tsz (wdE byt tsz x0)))))], cby g lby 200 byt, cin g la 6 fl]) rfl (fun H locs hw => ?_)
      refine lv_istore_n (lv' := [(3, .int (rdN byt tsz (wdE byt tsz (wdE byt tsz (wdE byt tsz x0))) 9)), (2, .int (rdN byt tsz (wdE byt tsz x0) 5)), (0, .ref ltp), (1, .ref la)]) hx hb dX7_readRoster_33 rfl hl (by decide) rfl (fun ls hl => ?_)
      refine lv_iload_n hx hb dX7_readRoster_34 rfl (lv_at hl 0 rfl) ?_
      refine lv_if_ge (tgt := 40) hx hb dX7_readRoster_35 (by decide) (fun c_3 => ?_) (fun c_3 => ?_)
      · refine lv_aload_n hx hb dX7_readRoster_40 rfl (lv_at hl 3 rfl) ?_
        refine lv_iload_n hx hb dX7_readRoster_41 rfl (lv_at hl 1 rfl) ?_
        refine lv_tope (y := nI (ix (rdN byt tsz (wdE byt tsz x0) 5))) hr1.1 ?_
        refine lv_iload_n hx hb dX7_readRoster_42 rfl (lv_at hl 0 rfl) ?_
        refine rsj hf hk hw 2 rfl (j := ix (rdN byt tsz (wdE byt tsz x0) 5)) (vp_in_nI (by omega) (by omega)) (nI_clamp (by omega)) dX7_readRoster_43 (W' := [cob ltp 7 [.ref lby, .int (nI tsz), .int (wdO byt tsz (wdE byt tsz (wdE byt tsz (wdE byt tsz x0)))), .int (nI (wdS byt tsz (wdE byt tsz (wdE byt tsz (wdE byt tsz x0))))), .int (nI (wdE byt tsz (wdE byt tsz (wdE byt tsz (wdE byt tsz x0)))))], cby g lby 200 byt, cin g la 6 (upd fl (ix (rdN byt tsz (wdE byt tsz x0) 5)) (rdN byt tsz (wdE byt tsz (wdE byt tsz (wdE byt tsz x0))) 9))]) rfl (fun H locs hw => ?_)
        refine lv_aload_n hx hb dX7_readRoster_44 rfl (lv_at hl 2 rfl) ?_
        refine mcV hf hk hst hw (c_X7_readWord l g ltp lby tsz (wdO byt tsz (wdE byt tsz (wdE byt tsz (wdE byt tsz x0)))) (wdE byt tsz (wdE byt tsz (wdE byt tsz (wdE byt tsz x0)))) byt (nI (wdS byt tsz (wdE byt tsz (wdE byt tsz (wdE byt tsz x0))))) (by omega) (by omega)) (cwV 0 hts gX7_readRoster_X7_readWord rfl rfl rfl hdV_X7_readWord ⟨Nat.le_of_ble_eq_true rfl, Nat.le_of_ble_eq_true rfl⟩) [0, 1] rfl rfl 0 rfl rfl rfl hl.1 rfl (Nat.le_of_ble_eq_true rfl) dX7_readRoster_45 ⟨Nat.zero_le _, Nat.zero_le _⟩ (W' := [cob ltp 7 [.ref lby, .int (nI tsz), .int (wdO byt tsz (wdE byt tsz (wdE byt tsz (wdE byt tsz (wdE byt tsz x0))))), .int (nI (wdS byt tsz (wdE byt tsz (wdE byt tsz (wdE byt tsz (wdE byt tsz x0)))))), .int (nI (wdE byt tsz (wdE byt tsz (wdE byt tsz (wdE byt tsz (wdE byt tsz x0))))))], cby g lby 200 byt, cin g la 6 (upd fl (ix (rdN byt tsz (wdE byt tsz x0) 5)) (rdN byt tsz (wdE byt tsz (wdE byt tsz (wdE byt tsz x0))) 9))]) rfl (fun H locs hw => ?_)
        refine lv_aload_n hx hb dX7_readRoster_48 rfl (lv_at hl 2 rfl) ?_
        refine mcV hf hk hst hw (c_X7_isSemicolon l g ltp lby tsz (wdO byt tsz (wdE byt tsz (wdE byt tsz (wdE byt tsz (wdE byt tsz x0))))) (wdS byt tsz (wdE byt tsz (wdE byt tsz (wdE byt tsz (wdE byt tsz x0))))) (wdE byt tsz (wdE byt tsz (wdE byt tsz (wdE byt tsz (wdE byt tsz x0))))) byt (wdO_b byt htz (by omega))) (cwV 0 hts gX7_readRoster_X7_isSemicolon rfl rfl rfl hdV_X7_isSemicolon ⟨Nat.le_of_ble_eq_true rfl, Nat.le_of_ble_eq_true rfl⟩) [0, 1] rfl rfl 0 rfl rfl rfl hl.1 rfl (Nat.le_of_ble_eq_true rfl) dX7_readRoster_49 ⟨Nat.zero_le _, Nat.zero_le _⟩ (W' := [cob ltp 7 [.ref lby, .int (nI tsz), .int (wdO byt tsz (wdE byt tsz (wdE byt tsz (wdE byt tsz (wdE byt tsz x0))))), .int (nI (wdS byt tsz (wdE byt tsz (wdE byt tsz (wdE byt tsz (wdE byt tsz x0)))))), .int (nI (wdE byt tsz (wdE byt tsz (wdE byt tsz (wdE byt tsz (wdE byt tsz x0))))))], cby g lby 200 byt, cin g la 6 (upd fl (ix (rdN byt tsz (wdE byt tsz x0) 5)) (rdN byt tsz (wdE byt tsz (wdE byt tsz (wdE byt tsz x0))) 9))]) rfl (fun H locs hw => ?_)
        exact re_z hf hr hlk hw (sm_z _ _ _) (by simp only [f_X7_readRoster, if_pos c_1, if_neg c_2, if_pos c_3]) (by simp only [f_X7_readRoster_x, f_X7_readRoster_w1, if_pos c_1, if_neg c_2, if_pos c_3]) dX7_readRoster_52
      · refine lv_iconst (v := 0) hx hb dX7_readRoster_38 (by decide) ?_
        exact re_z hf hr hlk hw (rfl) (by simp only [f_X7_readRoster, if_pos c_1, if_neg c_2, if_neg c_3]) (by simp only [f_X7_readRoster_x, f_X7_readRoster_w1, if_pos c_1, if_neg c_2, if_neg c_3]) dX7_readRoster_39
    · refine lv_iconst (v := 0) hx hb dX7_readRoster_25 (by decide) ?_
      exact re_z hf hr hlk hw (rfl) (by simp only [f_X7_readRoster, if_pos c_1, if_pos c_2]) (by simp only [f_X7_readRoster_x, f_X7_readRoster_w1, if_pos c_1, if_pos c_2]) dX7_readRoster_26
  · refine lv_iconst (v := 0) hx hb dX7_readRoster_10 (by decide) ?_
    exact re_z hf hr hlk hw (rfl) (by simp only [f_X7_readRoster, if_neg c_1]) (by simp only [f_X7_readRoster_x, f_X7_readRoster_w1, if_neg c_1]) dX7_readRoster_11
