theorem rs_x {tsz : Nat} (byt : Nat → Int32) {x0 : Nat} (cnt : Nat) (htz : tsz ≤ 200) (hx0 : x0 ≤ tsz) : f_X7_readSentence_x tsz byt x0 cnt ≤ tsz := by
  unfold f_X7_readSentence_x
  split
  · split
    · split
      · split
        · exact hx0
        · exact lw_x byt _ htz hx0
      · exact ro_x byt htz hx0
    · exact ro_x byt htz hx0
  · exact rg_x byt _ htz hx0
theorem rs_c (tsz : Nat) (byt : Nat → Int32) (x0 : Nat) {cnt : Nat} (h : cnt ≤ 8) : f_X7_readSentence_w1 tsz byt x0 cnt ≤ 8 := by
  unfold f_X7_readSentence_w1
  split
  · exact h
  · exact rg_c tsz byt x0 h
/-- the text read, m sentences at most: the answer, where the last word was read from, the count, and the seven rows -/
def rI (byt : Nat → Int32) (tsz : Nat) : Nat → Nat → Nat → (Nat → Int32) → (Nat → Int32) → (Nat → Int32) → (Nat → Int32) → (Nat → Int32) → (Nat → Int32) → (Nat → Int32) → Int32 × Nat × Nat × (Nat → Int32) × (Nat → Int32) × (Nat → Int32) × (Nat → Int32) × (Nat → Int32) × (Nat → Int32) × (Nat → Int32)
  | 0, x, cn, la, fo, ar, ki, fs, ps, ms => (-1, x, cn, la, fo, ar, ki, fs, ps, ms)
  | m + 1, x, cn, la, fo, ar, ki, fs, ps, ms =>
    if wdO byt tsz x = 0 then (-1, x, cn, la, fo, ar, ki, fs, ps, ms) else
    if f_X7_readSentence tsz byt x cn = 0 then (nI (wdS byt tsz (f_X7_readSentence_x tsz byt x cn)), f_X7_readSentence_x tsz byt x cn, f_X7_readSentence_w1 tsz byt x cn, f_X7_readSentence_w2 tsz byt x la, f_X7_readSentence_w3 tsz byt x fo, f_X7_readSentence_w4 tsz byt x ar, f_X7_readSentence_w5 tsz byt x ki cn, f_X7_readSentence_w6 tsz byt x fs cn, f_X7_readSentence_w7 tsz byt x ps cn, f_X7_readSentence_w8 tsz byt x ms cn) else
    rI byt tsz m (wdE byt tsz (f_X7_readSentence_x tsz byt x cn)) (f_X7_readSentence_w1 tsz byt x cn) (f_X7_readSentence_w2 tsz byt x la) (f_X7_readSentence_w3 tsz byt x fo) (f_X7_readSentence_w4 tsz byt x ar) (f_X7_readSentence_w5 tsz byt x ki cn) (f_X7_readSentence_w6 tsz byt x fs cn) (f_X7_readSentence_w7 tsz byt x ps cn) (f_X7_readSentence_w8 tsz byt x ms cn)
def rI0 (byt : Nat → Int32) (tsz : Nat) (ki fs ps ms : Nat → Int32) : Int32 × Nat × Nat × (Nat → Int32) × (Nat → Int32) × (Nat → Int32) × (Nat → Int32) × (Nat → Int32) × (Nat → Int32) × (Nat → Int32) := rI byt tsz 200 0 0 tq_first (fun _ => 2) (fun _ => 4) ki fs ps ms
theorem hdV_X8_clear : yX8_clear.cls = RX8 ∧ yX8_clear.cls ≠ "java/lang/invoke/MethodHandle" ∧ yX8_clear.cls ≠ "java/lang/invoke/VarHandle" ∧ (parseMethodDescriptor yX8_clear.desc).map (fun d => d.parameters.length) = some 0 := by decide +kernel
theorem hdV_X7_readSentence : yX7_readSentence.cls = RX7 ∧ yX7_readSentence.cls ≠ "java/lang/invoke/MethodHandle" ∧ yX7_readSentence.cls ≠ "java/lang/invoke/VarHandle" ∧ (parseMethodDescriptor yX7_readSentence.desc).map (fun d => d.parameters.length) = some 1 := by decide +kernel
abbrev rmX7_readInto : Room := { frames := 7, cells := 0, slots := 0, locals := 154 }
set_option maxHeartbeats 4000000 in
set_option maxRecDepth 100000 in
theorem c_X7_readInto (l : Launch) (g : GG) (ltp : Nat) (lby : Nat) (tsz : Nat) (tso : Int32) (byt : Nat → Int32) (tst : Int32) (ten : Int32) (t : Nat) (tl : Nat) (tf : Nat) (ta : Nat) (tk : Nat) (tg : Nat) (tp : Nat) (tm : Nat) (laws : Nat → Int32) (fogs : Nat → Int32) (arms : Nat → Int32) (kinds : Nat → Int32) (faiths : Nat → Int32) (places : Nat → Int32) (moved : Nat → Int32) (cnt : Nat) (stp : Nat) (z : Int32) (ak : Nat) (htz : tsz ≤ 200) : mt l g yX7_readInto wsX7_readInto rmX7_readInto [.ref ltp, .ref t] [cob ltp 7 [.ref lby, .int (nI tsz), .int tso, .int tst, .int ten], cby g lby 200 byt, cob t 8 [.ref ak, .ref tl, .ref tf, .ref ta, .ref tk, .ref tg, .ref tp, .ref tm, .int (nI cnt), .int (nI stp), .int z], cin g tl 4 laws, cin g tf 6 fogs, cin g ta 6 arms, cin g tk 8 kinds, cin g tg 8 faiths, cin g tp 8 places, cin g tm 8 moved] (some (.int ((rI0 byt tsz kinds faiths places moved).1))) [cob ltp 7 [.ref lby, .int (nI tsz), .int (wdO byt tsz ((rI0 byt tsz kinds faiths places moved).2.1)), .int (nI (wdS byt tsz ((rI0 byt tsz kinds faiths places moved).2.1))), .int (nI (wdE byt tsz ((rI0 byt tsz kinds faiths places moved).2.1)))], cby g lby 200 byt, cob t 8 [.ref ak, .ref tl, .ref tf, .ref ta, .ref tk, .ref tg, .ref tp, .ref tm, .int (nI ((rI0 byt tsz kinds faiths places moved).2.2.1)), .int (nI 0), .int z], cin g tl 4 ((rI0 byt tsz kinds faiths places moved).2.2.2.1), cin g tf 6 ((rI0 byt tsz kinds faiths places moved).2.2.2.2.1), cin g ta 6 ((rI0 byt tsz kinds faiths places moved).2.2.2.2.2.1), cin g tk 8 ((rI0 byt tsz kinds faiths places moved).2.2.2.2.2.2.1), cin g tg 8 ((rI0 byt tsz kinds faiths places moved).2.2.2.2.2.2.2.1), cin g tp 8 ((rI0 byt tsz kinds faiths places moved).2.2.2.2.2.2.2.2.1), cin g tm 8 ((rI0 byt tsz kinds faiths places moved).2.2.2.2.2.2.2.2.2)] := by
  refine mt.of (cc := cX7_readInto) (nL := 3) (ret := (some .int)) (own := RX7) (by decide +kernel) rfl rfl (show ([ltp, lby, t, tl, tf, ta, tk, tg, tp, tm] : List Nat) = [ltp, lby, t, tl, tf, ta, tk, tg, tp, tm] from rfl) (Nat.le_of_ble_eq_true rfl) (fun p e s m below meth c hf hr hlk _ hk hst hw ls hl => ?_)
  have hx := hf.1
  have hb := hf.2.1
  have hts := hf.2.2.2.2
  have hl : lv_has ls 3 [(0, .ref ltp), (1, .ref t)] := hl
  have hinX7 : ∀ w ∈ u_ws RX7 TX7 5, w ∈ wsX7_readInto := fun w h => List.mem_cons_of_mem _ (List.mem_append_left _ (List.mem_append_right _ h))
  have w_0 : Cond.fieldLink RX7 25 "LightMan$Tape" "end" "I" ∈ wsX7_readInto := List.mem_of_getElem? (i := 1) rfl
  have w_1 : Cond.fieldLink RX7 19 "LightMan$Tape" "sort" "I" ∈ wsX7_readInto := List.mem_of_getElem? (i := 2) rfl
  have w_2 : Cond.fieldLink RX7 22 "LightMan$Tape" "start" "I" ∈ wsX7_readInto := List.mem_of_getElem? (i := 3) rfl
  refine lv_aload_n hx hb dX7_readInto_0 rfl (lv_at hl 1 rfl) ?_
  refine mcV hf hk hst hw (c_X8_clear l g t tl tf ta tk tg tp tm laws fogs arms cnt stp z ak) (cwV 0 hts gX7_readInto_X8_clear rfl rfl rfl hdV_X8_clear ⟨Nat.le_of_ble_eq_true rfl, Nat.le_of_ble_eq_true rfl⟩) [2, 3, 4, 5] rfl rfl 2 rfl rfl rfl hl.1 rfl (Nat.le_of_ble_eq_true rfl) dX7_readInto_1 ⟨Nat.zero_le _, Nat.zero_le _⟩ (W' := [cob ltp 7 [.ref lby, .int (nI tsz), .int tso, .int tst, .int ten], cby g lby 200 byt, cob t 8 [.ref ak, .ref tl, .ref tf, .ref ta, .ref tk, .ref tg, .ref tp, .ref tm, .int 0, .int 0, .int z], cin g tl 4 tq_first, cin g tf 6 (fun _ => 2), cin g ta 6 (fun _ => 4), cin g tk 8 kinds, cin g tg 8 faiths, cin g tp 8 places, cin g tm 8 moved]) rfl (fun H locs hw => ?_)
  refine lv_aload_n hx hb dX7_readInto_4 rfl (lv_at hl 0 rfl) ?_
  refine lv_iconst (v := 0) hx hb dX7_readInto_5 (by decide) ?_
  refine rp hf hk hw hinX7 tyX7 tyX7_ok nmX7 0 rfl rfl 4 (by decide) w_0 rfl (rfl) rfl (Nat.le_of_ble_eq_true rfl) dX7_readInto_6 (W' := [cob ltp 7 [.ref lby, .int (nI tsz), .int tso, .int tst, .int 0], cby g lby 200 byt, cob t 8 [.ref ak, .ref tl, .ref tf, .ref ta, .ref tk, .ref tg, .ref tp, .ref tm, .int 0, .int 0, .int z], cin g tl 4 tq_first, cin g tf 6 (fun _ => 2), cin g ta 6 (fun _ => 4), cin g tk 8 kinds, cin g tg 8 faiths, cin g tp 8 places, cin g tm 8 moved]) rfl (fun H locs hw => ?_)
  refine lv_aload_n hx hb dX7_readInto_9 rfl (lv_at hl 0 rfl) ?_
  refine mcV hf hk hst hw (c_X7_readWord l g ltp lby tsz tso 0 byt tst (by omega) (by omega)) (cwV 0 hts gX7_readInto_X7_readWord rfl rfl rfl hdV_X7_readWord ⟨Nat.le_of_ble_eq_true rfl, Nat.le_of_ble_eq_true rfl⟩) [0, 1] rfl rfl 0 rfl rfl rfl hl.1 rfl (Nat.le_of_ble_eq_true rfl) dX7_readInto_10 ⟨Nat.zero_le _, Nat.zero_le _⟩ (W' := [cob ltp 7 [.ref lby, .int (nI tsz), .int (wdO byt tsz 0), .int (nI (wdS byt tsz 0)), .int (nI (wdE byt tsz 0))], cby g lby 200 byt, cob t 8 [.ref ak, .ref tl, .ref tf, .ref ta, .ref tk, .ref tg, .ref tp, .ref tm, .int 0, .int 0, .int z], cin g tl 4 tq_first, cin g tf 6 (fun _ => 2), cin g ta 6 (fun _ => 4), cin g tk 8 kinds, cin g tg 8 faiths, cin g tp 8 places, cin g tm 8 moved]) rfl (fun H locs hw => ?_)
  refine lv_iconst (v := 0) hx hb dX7_readInto_13 (by decide) ?_
  refine lv_istore_n (lv' := [(2, .int 0), (0, .ref ltp), (1, .ref t)]) hx hb dX7_readInto_14 rfl hl (by decide) rfl (fun ls hl => ?_)
  have lp_15_0 : ∀ (fu k : Nat) (xx : Nat) (cn : Nat) (la : Nat → Int32) (fo : Nat → Int32) (ar : Nat → Int32) (ki : Nat → Int32) (fs : Nat → Int32) (ps : Nat → Int32) (ms : Nat → Int32), k ≤ 200 → 200 + 1 ≤ k + fu → (rI0 byt tsz kinds faiths places moved = rI byt tsz (200 - k) xx cn la fo ar ki fs ps ms) → (xx ≤ tsz) → (cn ≤ 8) → ∀ (H : Heap) (locs : List Loc), hv g (va_I [cob ltp 7 [.ref lby, .int (nI tsz), .int tso, .int tst, .int ten], cby g lby 200 byt, cob t 8 [.ref ak, .ref tl, .ref tf, .ref ta, .ref tk, .ref tg, .ref tp, .ref tm, .int (nI cnt), .int (nI stp), .int z], cin g tl 4 laws, cin g tf 6 fogs, cin g ta 6 arms, cin g tk 8 kinds, cin g tg 8 faiths, cin g tp 8 places, cin g tm 8 moved]) s H locs [cob ltp 7 [.ref lby, .int (nI tsz), .int (wdO byt tsz xx), .int (nI (wdS byt tsz xx)), .int (nI (wdE byt tsz xx))], cby g lby 200 byt, cob t 8 [.ref ak, .ref tl, .ref tf, .ref ta, .ref tk, .ref tg, .ref tp, .ref tm, .int (nI cn), .int 0, .int z], cin g tl 4 la, cin g tf 6 fo, cin g ta 6 ar, cin g tk 8 ki, cin g tg 8 fs, cin g tp 8 ps, cin g tm 8 ms] → ∀ ls : Array Slot, lv_has ls 3 [(2, .int (nI k)), (0, .ref ltp), (1, .ref t)] → W p l e rmX7_readInto s m ([.ref ltp, .ref t] : List Value).toArray below meth c H locs 0 0 (MQ below (mtQ g [cob ltp 7 [.ref lby, .int (nI tsz), .int tso, .int tst, .int ten], cby g lby 200 byt, cob t 8 [.ref ak, .ref tl, .ref tf, .ref ta, .ref tk, .ref tg, .ref tp, .ref tm, .int (nI cnt), .int (nI stp), .int z], cin g tl 4 laws, cin g tf 6 fogs, cin g ta 6 arms, cin g tk 8 kinds, cin g tg 8 faiths, cin g tp 8 places, cin g tm 8 moved] (some (.int ((rI0 byt tsz kinds faiths places moved).1))) [cob ltp 7 [.ref lby, .int (nI tsz), .int (wdO byt tsz ((rI0 byt tsz kinds faiths places moved).2.1)), .int (nI (wdS byt tsz ((rI0 byt tsz kinds faiths places moved).2.1))), .int (nI (wdE byt tsz ((rI0 byt tsz kinds faiths places moved).2.1)))], cby g lby 200 byt, cob t 8 [.ref ak, .ref tl, .ref tf, .ref ta, .ref tk, .ref tg, .ref tp, .ref tm, .int (nI ((rI0 byt tsz kinds faiths places moved).2.2.1)), .int (nI 0), .int z], cin g tl 4 ((rI0 byt tsz kinds faiths places moved).2.2.2.1), cin g tf 6 ((rI0 byt tsz kinds faiths places moved).2.2.2.2.1), cin g ta 6 ((rI0 byt tsz kinds faiths places moved).2.2.2.2.2.1), cin g tk 8 ((rI0 byt tsz kinds faiths places moved).2.2.2.2.2.2.1), cin g tg 8 ((rI0 byt tsz kinds faiths places moved).2.2.2.2.2.2.2.1), cin g tp 8 ((rI0 byt tsz kinds faiths places moved).2.2.2.2.2.2.2.2.1), cin g tm 8 ((rI0 byt tsz kinds faiths places moved).2.2.2.2.2.2.2.2.2)]) ([.ref ltp, .ref t] : List Value).toArray s 0 0 (va_I [cob ltp 7 [.ref lby, .int (nI tsz), .int tso, .int tst, .int ten], cby g lby 200 byt, cob t 8 [.ref ak, .ref tl, .ref tf, .ref ta, .ref tk, .ref tg, .ref tp, .ref tm, .int (nI cnt), .int (nI stp), .int z], cin g tl 4 laws, cin g tf 6 fogs, cin g ta 6 arms, cin g tk 8 kinds, cin g tg 8 faiths, cin g tp 8 places, cin g tm 8 moved])) (F0 m 15 ls []) := by
    intro fu
    induction fu with
    | zero =>
      intro k xx cn la fo ar ki fs ps ms h1 h2
      exact absurd h2 (by omega)
    | succ fu ih_15 =>
      intro k xx cn la fo ar ki fs ps ms hk1_15 hk2_15 eR hxx hcc H locs hw ls hl
      refine lv_iload_n hx hb dX7_readInto_15 rfl (lv_at hl 0 rfl) ?_
      refine lv_sipush (v := 200) hx hb dX7_readInto_16 (by decide) ?_
      refine lv_icmp_ge (tgt := 52) hx hb dX7_readInto_19 (by decide) (fun c_2 => ?_) (fun c_2 => ?_)
      · have hkE : 200 - k = 0 := by have := (nI_leI (a := 200) (by omega) (by omega)).mp c_2; omega
        have eF : (rI0 byt tsz kinds faiths places moved) = (-1, xx, cn, la, fo, ar, ki, fs, ps, ms) := eR.trans (by rw [hkE]; rfl)
        refine lv_iconst (v := (-1)) hx hb dX7_readInto_52 (by decide) ?_
        exact re_i hf hr hlk hw (by rw [eF]) (by rw [eF] <;> rfl) dX7_readInto_53
      · have hk200 : k < 200 := Nat.not_le.mp (fun h => c_2 ((nI_leI (a := 200) (by omega) (by omega)).mpr h))
        have hm : 200 - k = (200 - (k + 1)) + 1 := by omega
        rw [hm] at eR
        refine lv_aload_n hx hb dX7_readInto_22 rfl (lv_at hl 1 rfl) ?_
        refine rg hf hk hw hinX7 0 rfl rfl 2 (by decide) w_1 rfl dX7_readInto_23 ?_
        refine lv_if_eq (tgt := 52) hx hb dX7_readInto_26 (by decide) (fun c_3 => ?_) (fun c_3 => ?_)
        · have eF : (rI0 byt tsz kinds faiths places moved) = (-1, xx, cn, la, fo, ar, ki, fs, ps, ms) := eR.trans (if_pos c_3)
          refine lv_iconst (v := (-1)) hx hb dX7_readInto_52 (by decide) ?_
          exact re_i hf hr hlk hw (by rw [eF]) (by rw [eF] <;> rfl) dX7_readInto_53
        · have hs0 := c_3
          refine lv_aload_n hx hb dX7_readInto_29 rfl (lv_at hl 1 rfl) ?_
          refine lv_aload_n hx hb dX7_readInto_30 rfl (lv_at hl 2 rfl) ?_
          refine mcV hf hk hst hw (c_X7_readSentence l g ltp lby tsz byt xx t tl tf ta tk tg tp tm la fo ar ki fs ps ms cn 0 z ak (by omega) (by omega) (by omega)) (cwV 1 hts gX7_readInto_X7_readSentence rfl rfl rfl hdV_X7_readSentence ⟨Nat.le_of_ble_eq_true rfl, Nat.le_of_ble_eq_true rfl⟩) [0, 1, 2, 3, 4, 5, 6, 7, 8, 9] rfl rfl 0 rfl rfl rfl hl.1 rfl (Nat.le_of_ble_eq_true rfl) dX7_readInto_31 ⟨Nat.zero_le _, Nat.zero_le _⟩ (W' := [cob ltp 7 [.ref lby, .int (nI tsz), .int (wdO byt tsz (f_X7_readSentence_x tsz byt xx cn)), .int (nI (wdS byt tsz (f_X7_readSentence_x tsz byt xx cn))), .int (nI (wdE byt tsz (f_X7_readSentence_x tsz byt xx cn)))], cby g lby 200 byt, cob t 8 [.ref ak, .ref tl, .ref tf, .ref ta, .ref tk, .ref tg, .ref tp, .ref tm, .int (nI (f_X7_readSentence_w1 tsz byt xx cn)), .int (nI 0), .int z], cin g tl 4 (f_X7_readSentence_w2 tsz byt xx la), cin g tf 6 (f_X7_readSentence_w3 tsz byt xx fo), cin g ta 6 (f_X7_readSentence_w4 tsz byt xx ar), cin g tk 8 (f_X7_readSentence_w5 tsz byt xx ki cn), cin g tg 8 (f_X7_readSentence_w6 tsz byt xx fs cn), cin g tp 8 (f_X7_readSentence_w7 tsz byt xx ps cn), cin g tm 8 (f_X7_readSentence_w8 tsz byt xx ms cn)]) rfl (fun H locs hw => ?_)
          refine lv_if_ne (tgt := 42) hx hb dX7_readInto_34 (by decide) (fun c_4 => ?_) (fun c_4 => ?_)
          · have hstep := eR.trans ((if_neg hs0).trans (if_neg c_4))
            have hX := wdE_b byt htz (rs_x byt cn htz hxx)
            refine lv_aload_n hx hb dX7_readInto_42 rfl (lv_at hl 1 rfl) ?_
            refine mcV hf hk hst hw (c_X7_readWord l g ltp lby tsz (wdO byt tsz (f_X7_readSentence_x tsz byt xx cn)) (wdE byt tsz (f_X7_readSentence_x tsz byt xx cn)) byt (nI (wdS byt tsz (f_X7_readSentence_x tsz byt xx cn))) (by omega) (by omega)) (cwV 0 hts gX7_readInto_X7_readWord rfl rfl rfl hdV_X7_readWord ⟨Nat.le_of_ble_eq_true rfl, Nat.le_of_ble_eq_true rfl⟩) [0, 1] rfl rfl 0 rfl rfl rfl hl.1 rfl (Nat.le_of_ble_eq_true rfl) dX7_readInto_43 ⟨Nat.zero_le _, Nat.zero_le _⟩ (W' := [cob ltp 7 [.ref lby, .int (nI tsz), .int (wdO byt tsz (wdE byt tsz (f_X7_readSentence_x tsz byt xx cn))), .int (nI (wdS byt tsz (wdE byt tsz (f_X7_readSentence_x tsz byt xx cn)))), .int (nI (wdE byt tsz (wdE byt tsz (f_X7_readSentence_x tsz byt xx cn))))], cby g lby 200 byt, cob t 8 [.ref ak, .ref tl, .ref tf, .ref ta, .ref tk, .ref tg, .ref tp, .ref tm, .int (nI (f_X7_readSentence_w1 tsz byt xx cn)), .int (nI 0), .int z], cin g tl 4 (f_X7_readSentence_w2 tsz byt xx la), cin g tf 6 (f_X7_readSentence_w3 tsz byt xx fo), cin g ta 6 (f_X7_readSentence_w4 tsz byt xx ar), cin g tk 8 (f_X7_readSentence_w5 tsz byt xx ki cn), cin g tg 8 (f_X7_readSentence_w6 tsz byt xx fs cn), cin g tp 8 (f_X7_readSentence_w7 tsz byt xx ps cn), cin g tm 8 (f_X7_readSentence_w8 tsz byt xx ms cn)]) rfl (fun H locs hw => ?_)
            refine lv_iinc (v := nI (k + 1)) (lv' := [(2, .int (nI (k + 1))), (0, .ref ltp), (1, .ref t)]) hx hb dX7_readInto_46 hl (k := 0) rfl (nI_1 _) (by decide) rfl (fun ls hl => ?_)
            refine lv_goto (tgt := 15) hx hb dX7_readInto_49 (by decide) ?_
            have e_1 : nI 0 = 0 := rfl
            rw [e_1] at hw
            exact ih_15 (k + 1) (wdE byt tsz (f_X7_readSentence_x tsz byt xx cn)) (f_X7_readSentence_w1 tsz byt xx cn) (f_X7_readSentence_w2 tsz byt xx la) (f_X7_readSentence_w3 tsz byt xx fo) (f_X7_readSentence_w4 tsz byt xx ar) (f_X7_readSentence_w5 tsz byt xx ki cn) (f_X7_readSentence_w6 tsz byt xx fs cn) (f_X7_readSentence_w7 tsz byt xx ps cn) (f_X7_readSentence_w8 tsz byt xx ms cn) (by omega) (by omega) (hstep) (hX.2) (rs_c _ _ _ hcc) _ _ hw _ (lv_sub hl [0, 1, 2] rfl)
          · have eF : (rI0 byt tsz kinds faiths places moved) = (nI (wdS byt tsz (f_X7_readSentence_x tsz byt xx cn)), f_X7_readSentence_x tsz byt xx cn, f_X7_readSentence_w1 tsz byt xx cn, f_X7_readSentence_w2 tsz byt xx la, f_X7_readSentence_w3 tsz byt xx fo, f_X7_readSentence_w4 tsz byt xx ar, f_X7_readSentence_w5 tsz byt xx ki cn, f_X7_readSentence_w6 tsz byt xx fs cn, f_X7_readSentence_w7 tsz byt xx ps cn, f_X7_readSentence_w8 tsz byt xx ms cn) := eR.trans ((if_neg hs0).trans (if_pos c_4))
            refine lv_aload_n hx hb dX7_readInto_37 rfl (lv_at hl 1 rfl) ?_
            refine rg hf hk hw hinX7 0 rfl rfl 3 (by decide) w_2 rfl dX7_readInto_38 ?_
            exact re_i hf hr hlk hw (by rw [eF]) (by rw [eF] <;> rfl) dX7_readInto_41
  exact lp_15_0 (200 + 1) 0 0 0 tq_first (fun _ => 2) (fun _ => 4) kinds faiths places moved (by omega) (by omega) (rfl) (by omega) (by omega) _ _ hw _ (lv_sub hl [0, 1, 2] rfl)
