abbrev rmX8_draw : Room := { frames := 0, cells := 0, slots := 0, locals := 0 }
set_option maxHeartbeats 4000000 in
set_option maxRecDepth 100000 in
theorem c_X8_draw (l : Launch) (g : GG) (t : Nat) (tl : Nat) (tf : Nat) (ta : Nat) (tk : Nat) (tg : Nat) (tp : Nat) (tm : Nat) (cnt : Nat) (stp : Nat) (z : Int32) (ak : Nat) : mt l g yX8_draw wsX8_draw rmX8_draw [.ref t] [cob t 8 [.ref ak, .ref tl, .ref tf, .ref ta, .ref tk, .ref tg, .ref tp, .ref tm, .int (nI cnt), .int (nI stp), .int z]] (some (.int (drV z))) [cob t 8 [.ref ak, .ref tl, .ref tf, .ref ta, .ref tk, .ref tg, .ref tp, .ref tm, .int (nI cnt), .int (nI stp), .int (drZ z)]] := by
  refine mt.of (cc := cX8_draw) (nL := 1) (ret := (some .int)) (own := RX8) (by decide +kernel) rfl rfl (show ([t] : List Nat) = [t] from rfl) (Nat.le_of_ble_eq_true rfl) (fun p e s m below meth c hf hr hlk _ hk hst hw ls hl => ?_)
  have hx := hf.1
  have hb := hf.2.1
  have hts := hf.2.2.2.2
  have hl : lv_has ls 1 [(0, .ref t)] := hl
  have hinX8 : ∀ w ∈ u_ws RX8 TX8 11, w ∈ wsX8_draw := fun w h => List.mem_cons_of_mem _ (List.mem_append_right _ h)
  have w_0 : Cond.fieldLink RX8 33 "LightMan$Tunnel" "z" "I" ∈ wsX8_draw := List.mem_of_getElem? (i := 1) rfl
  have w_1 : Cond.constant RX8 107 (1103515245) ∈ wsX8_draw := List.mem_of_getElem? (i := 2) rfl
  refine lv_aload_n hx hb dX8_draw_0 rfl (lv_at hl 0 rfl) ?_
  refine lv_aload_n hx hb dX8_draw_1 rfl (lv_at hl 0 rfl) ?_
  refine rg hf hk hw hinX8 0 rfl rfl 10 (by decide) w_0 rfl dX8_draw_2 ?_
  refine lv_ldc hx hb hf.2.2.2.1 (hts _ w_1) dX8_draw_5 ?_
  refine lv_imul hx hb dX8_draw_7 ?_
  refine lv_sipush (v := 12345) hx hb dX8_draw_8 (by decide) ?_
  refine lv_iadd hx hb dX8_draw_11 ?_
  refine lv_tope (y := drZ z) (by simp only [drZ]) ?_
  refine rp hf hk hw hinX8 tyX8 tyX8_ok nmX8 0 rfl rfl 10 (by decide) w_0 rfl (rfl) rfl (Nat.le_of_ble_eq_true rfl) dX8_draw_12 (W' := [cob t 8 [.ref ak, .ref tl, .ref tf, .ref ta, .ref tk, .ref tg, .ref tp, .ref tm, .int (nI cnt), .int (nI stp), .int (drZ z)]]) rfl (fun H locs hw => ?_)
  refine lv_aload_n hx hb dX8_draw_15 rfl (lv_at hl 0 rfl) ?_
  refine rg hf hk hw hinX8 0 rfl rfl 10 (by decide) w_0 rfl dX8_draw_16 ?_
  refine lv_bipush (v := 16) hx hb dX8_draw_19 (by decide) ?_
  refine lv_iushr hx hb dX8_draw_21 rfl ?_
  refine lv_tope (y := drV z) (by simp only [drV]) ?_
  exact re_i hf hr hlk hw (rfl) (rfl) dX8_draw_22
theorem hdV_X8_goStep : yX8_goStep.cls = RX8 ∧ yX8_goStep.cls ≠ "java/lang/invoke/MethodHandle" ∧ yX8_goStep.cls ≠ "java/lang/invoke/VarHandle" ∧ (parseMethodDescriptor yX8_goStep.desc).map (fun d => d.parameters.length) = some 0 := by decide +kernel
theorem hdV_X8_draw : yX8_draw.cls = RX8 ∧ yX8_draw.cls ≠ "java/lang/invoke/MethodHandle" ∧ yX8_draw.cls ≠ "java/lang/invoke/VarHandle" ∧ (parseMethodDescriptor yX8_draw.desc).map (fun d => d.parameters.length) = some 0 := by decide +kernel
abbrev rmX8_goStepByDraws : Room := { frames := 6, cells := 0, slots := 0, locals := 138 }
set_option maxHeartbeats 4000000 in
set_option maxRecDepth 100000 in
theorem c_X8_goStepByDraws (l : Launch) (g : GG) (t : Nat) (tl : Nat) (tf : Nat) (ta : Nat) (tk : Nat) (tg : Nat) (tp : Nat) (tm : Nat) (laws : Nat → Int32) (fogs : Nat → Int32) (arms : Nat → Int32) (kinds : Nat → Int32) (faiths : Nat → Int32) (places : Nat → Int32) (moved : Nat → Int32) (cnt : Nat) (stp : Nat) (z : Int32) (ak : Nat) (k0 : Nat) (k1 : Nat) (k2 : Nat) (k3 : Nat) (k4 : Nat) (k5 : Nat) (hc8 : cnt ≤ 8) (hsp : stp < 2 ^ 30) (hkd : ∀ j, j < cnt → isK (kinds j)) : mt l g yX8_goStepByDraws wsX8_goStepByDraws rmX8_goStepByDraws [.ref t] [cob t 8 [.ref ak, .ref tl, .ref tf, .ref ta, .ref tk, .ref tg, .ref tp, .ref tm, .int (nI cnt), .int (nI stp), .int z], cin g tl 4 laws, cin g tf 6 fogs, cin g ta 6 arms, cin g tk 8 kinds, cin g tg 8 faiths, cin g tp 8 places, cin g tm 8 moved, ckd g ak 6 (kdf k0 k1 k2 k3 k4 k5), cob k0 4 [], cob k1 2 [], cob k2 5 [], cob k3 6 [], cob k4 9 [], cob k5 1 []] none [cob t 8 [.ref ak, .ref tl, .ref tf, .ref ta, .ref tk, .ref tg, .ref tp, .ref tm, .int (nI cnt), .int (nI (stp + 1)), .int (drZ2 z cnt)], cin g tl 4 laws, cin g tf 6 fogs, cin g ta 6 arms, cin g tk 8 kinds, cin g tg 8 (goF laws fogs arms stp kinds (drF laws faiths z cnt) places cnt), cin g tp 8 (goP laws fogs arms stp kinds (drF laws faiths z cnt) places cnt), cin g tm 8 (goM laws fogs arms stp kinds places moved cnt), ckd g ak 6 (kdf k0 k1 k2 k3 k4 k5), cob k0 4 [], cob k1 2 [], cob k2 5 [], cob k3 6 [], cob k4 9 [], cob k5 1 []] := by
  refine mt.of (cc := cX8_goStepByDraws) (nL := 2) (ret := none) (own := RX8) (by decide +kernel) rfl rfl (show ([t, tl, tf, ta, tk, tg, tp, tm, ak, k0, k1, k2, k3, k4, k5] : List Nat) = [t, tl, tf, ta, tk, tg, tp, tm, ak, k0, k1, k2, k3, k4, k5] from rfl) (Nat.le_of_ble_eq_true rfl) (fun p e s m below meth c hf hr hlk _ hk hst hw ls hl => ?_)
  have hx := hf.1
  have hb := hf.2.1
  have hts := hf.2.2.2.2
  have hl : lv_has ls 2 [(0, .ref t)] := hl
  have hinX8 : ∀ w ∈ u_ws RX8 TX8 11, w ∈ wsX8_goStepByDraws := fun w h => List.mem_cons_of_mem _ (List.mem_append_right _ h)
  have w_0 : Cond.fieldLink RX8 47 "LightMan$Tunnel" "count" "I" ∈ wsX8_goStepByDraws := List.mem_of_getElem? (i := 1) rfl
  have w_1 : Cond.fieldLink RX8 9 "LightMan$Tunnel" "laws" "[I" ∈ wsX8_goStepByDraws := List.mem_of_getElem? (i := 2) rfl
  have w_2 : Cond.fieldLink RX8 24 "LightMan$Tunnel" "faiths" "[I" ∈ wsX8_goStepByDraws := List.mem_of_getElem? (i := 3) rfl
  refine lv_aload_n hx hb dX8_goStepByDraws_0 rfl (lv_at hl 0 rfl) ?_
  refine rg hf hk hw hinX8 0 rfl rfl 8 (by decide) w_0 rfl dX8_goStepByDraws_1 ?_
  refine lv_if_le (tgt := 48) hx hb dX8_goStepByDraws_4 (by decide) (fun c_1 => ?_) (fun c_1 => ?_)
  · refine lv_aload_n hx hb dX8_goStepByDraws_48 rfl (lv_at hl 0 rfl) ?_
    refine mcV hf hk hst hw (c_X8_goStep l g t tl tf ta tk tg tp tm laws fogs arms kinds faiths places moved cnt stp z ak k0 k1 k2 k3 k4 k5 (by omega) (by omega) (by assumption)) (cwV 0 hts gX8_goStepByDraws_X8_goStep rfl rfl rfl hdV_X8_goStep ⟨Nat.le_of_ble_eq_true rfl, Nat.le_of_ble_eq_true rfl⟩) [0, 1, 2, 3, 4, 5, 6, 7, 8, 9, 10, 11, 12, 13, 14] rfl rfl 0 rfl rfl rfl hl.1 rfl (Nat.le_of_ble_eq_true rfl) dX8_goStepByDraws_49 ⟨Nat.zero_le _, Nat.zero_le _⟩ (W' := [cob t 8 [.ref ak, .ref tl, .ref tf, .ref ta, .ref tk, .ref tg, .ref tp, .ref tm, .int (nI cnt), .int (nI (stp + 1)), .int z], cin g tl 4 laws, cin g tf 6 fogs, cin g ta 6 arms, cin g tk 8 kinds, cin g tg 8 (goF laws fogs arms stp kinds faiths places cnt), cin g tp 8 (goP laws fogs arms stp kinds faiths places cnt), cin g tm 8 (goM laws fogs arms stp kinds places moved cnt), ckd g ak 6 (kdf k0 k1 k2 k3 k4 k5), cob k0 4 [], cob k1 2 [], cob k2 5 [], cob k3 6 [], cob k4 9 [], cob k5 1 []]) rfl (fun H locs hw => ?_)
    exact re_v hf hr hlk hw (by simp only [drF, drZ2, if_pos c_1]) dX8_goStepByDraws_52
  · have h0 : 0 < cnt := Nat.pos_of_ne_zero (fun h => c_1 (by rw [h]; exact Int32.le_refl _))
    have hlt : drN z % cnt < cnt := Nat.mod_lt _ h0
    refine lv_aload_n hx hb dX8_goStepByDraws_7 rfl (lv_at hl 0 rfl) ?_
    refine mcV hf hk hst hw (c_X8_draw l g t tl tf ta tk tg tp tm cnt stp z ak) (cwV 0 hts gX8_goStepByDraws_X8_draw rfl rfl rfl hdV_X8_draw ⟨Nat.le_of_ble_eq_true rfl, Nat.le_of_ble_eq_true rfl⟩) [0] rfl rfl 0 rfl rfl rfl hl.1 rfl (Nat.le_of_ble_eq_true rfl) dX8_goStepByDraws_8 ⟨Nat.zero_le _, Nat.zero_le _⟩ (W' := [cob t 8 [.ref ak, .ref tl, .ref tf, .ref ta, .ref tk, .ref tg, .ref tp, .ref tm, .int (nI cnt), .int (nI stp), .int (drZ z)], cin g tl 4 laws, cin g tf 6 fogs, cin g ta 6 arms, cin g tk 8 kinds, cin g tg 8 faiths, cin g tp 8 places, cin g tm 8 moved, ckd g ak 6 (kdf k0 k1 k2 k3 k4 k5), cob k0 4 [], cob k1 2 [], cob k2 5 [], cob k3 6 [], cob k4 9 [], cob k5 1 []]) rfl (fun H locs hw => ?_)
    refine lv_aload_n hx hb dX8_goStepByDraws_11 rfl (lv_at hl 0 rfl) ?_
    refine rg hf hk hw hinX8 0 rfl rfl 8 (by decide) w_0 rfl dX8_goStepByDraws_12 ?_
    refine lv_irem hx hb dX8_goStepByDraws_15 (fun h => c_1 (by rw [h]; exact Int32.le_refl _)) ?_
    refine lv_tope (y := nI (drN z % cnt)) (drM z h0 (by omega)) ?_
    refine lv_istore_n (lv' := [(1, .int (nI (drN z % cnt))), (0, .ref t)]) hx hb dX8_goStepByDraws_16 rfl hl (by decide) rfl (fun ls hl => ?_)
    refine lv_aload_n hx hb dX8_goStepByDraws_17 rfl (lv_at hl 1 rfl) ?_
    refine mcV hf hk hst hw (c_X8_draw l g t tl tf ta tk tg tp tm cnt stp (drZ z) ak) (cwV 0 hts gX8_goStepByDraws_X8_draw rfl rfl rfl hdV_X8_draw ⟨Nat.le_of_ble_eq_true rfl, Nat.le_of_ble_eq_true rfl⟩) [0] rfl rfl 0 rfl rfl rfl hl.1 rfl (Nat.le_of_ble_eq_true rfl) dX8_goStepByDraws_18 ⟨Nat.zero_le _, Nat.zero_le _⟩ (W' := [cob t 8 [.ref ak, .ref tl, .ref tf, .ref ta, .ref tk, .ref tg, .ref tp, .ref tm, .int (nI cnt), .int (nI stp), .int (drZ (drZ z))], cin g tl 4 laws, cin g tf 6 fogs, cin g ta 6 arms, cin g tk 8 kinds, cin g tg 8 faiths, cin g tp 8 places, cin g tm 8 moved, ckd g ak 6 (kdf k0 k1 k2 k3 k4 k5), cob k0 4 [], cob k1 2 [], cob k2 5 [], cob k3 6 [], cob k4 9 [], cob k5 1 []]) rfl (fun H locs hw => ?_)
    refine lv_bipush (v := 100) hx hb dX8_goStepByDraws_21 (by decide) ?_
    refine lv_irem hx hb dX8_goStepByDraws_23 (by decide) ?_
    refine lv_tope (y := nI (drN (drZ z) % 100)) (drM (drZ z) (c := 100) (by decide) (by decide)) ?_
    refine lv_aload_n hx hb dX8_goStepByDraws_24 rfl (lv_at hl 1 rfl) ?_
    refine rg hf hk hw hinX8 0 rfl rfl 1 (by decide) w_1 rfl dX8_goStepByDraws_25 ?_
    refine lv_iconst (v := 3) hx hb dX8_goStepByDraws_28 (by decide) ?_
    refine rij hf hk hw 1 rfl (j := 3) (vp_in_nI (n := 3) (by omega) (by omega)) (rfl) dX8_goStepByDraws_29 ?_
    refine lv_icmp_ge (tgt := 48) hx hb dX8_goStepByDraws_30 (by decide) (fun c_2 => ?_) (fun c_2 => ?_)
    · refine lv_aload_n hx hb dX8_goStepByDraws_48 rfl (lv_at hl 1 rfl) ?_
      refine mcV hf hk hst hw (c_X8_goStep l g t tl tf ta tk tg tp tm laws fogs arms kinds faiths places moved cnt stp (drZ (drZ z)) ak k0 k1 k2 k3 k4 k5 (by omega) (by omega) (by assumption)) (cwV 0 hts gX8_goStepByDraws_X8_goStep rfl rfl rfl hdV_X8_goStep ⟨Nat.le_of_ble_eq_true rfl, Nat.le_of_ble_eq_true rfl⟩) [0, 1, 2, 3, 4, 5, 6, 7, 8, 9, 10, 11, 12, 13, 14] rfl rfl 0 rfl rfl rfl hl.1 rfl (Nat.le_of_ble_eq_true rfl) dX8_goStepByDraws_49 ⟨Nat.zero_le _, Nat.zero_le _⟩ (W' := [cob t 8 [.ref ak, .ref tl, .ref tf, .ref ta, .ref tk, .ref tg, .ref tp, .ref tm, .int (nI cnt), .int (nI (stp + 1)), .int (drZ (drZ z))], cin g tl 4 laws, cin g tf 6 fogs, cin g ta 6 arms, cin g tk 8 kinds, cin g tg 8 (goF laws fogs arms stp kinds faiths places cnt), cin g tp 8 (goP laws fogs arms stp kinds faiths places cnt), cin g tm 8 (goM laws fogs arms stp kinds places moved cnt), ckd g ak 6 (kdf k0 k1 k2 k3 k4 k5), cob k0 4 [], cob k1 2 [], cob k2 5 [], cob k3 6 [], cob k4 9 [], cob k5 1 []]) rfl (fun H locs hw => ?_)
      exact re_v hf hr hlk hw (by simp only [drF, drZ2, if_neg c_1, if_pos c_2]) dX8_goStepByDraws_52
    · refine lv_aload_n hx hb dX8_goStepByDraws_33 rfl (lv_at hl 1 rfl) ?_
      refine rg hf hk hw hinX8 0 rfl rfl 5 (by decide) w_2 rfl dX8_goStepByDraws_34 ?_
      refine lv_iload_n hx hb dX8_goStepByDraws_37 rfl (lv_at hl 0 rfl) ?_
      refine lv_bipush (v := 99) hx hb dX8_goStepByDraws_38 (by decide) ?_
      refine lv_aload_n hx hb dX8_goStepByDraws_40 rfl (lv_at hl 1 rfl) ?_
      refine rg hf hk hw hinX8 0 rfl rfl 5 (by decide) w_2 rfl dX8_goStepByDraws_41 ?_
      refine lv_iload_n hx hb dX8_goStepByDraws_44 rfl (lv_at hl 0 rfl) ?_
      refine rij hf hk hw 5 rfl (j := drN z % cnt) (vp_in_nI (by omega) (by omega)) (nI_clamp (by omega)) dX8_goStepByDraws_45 ?_
      refine lv_isub hx hb dX8_goStepByDraws_46 ?_
      refine rsj hf hk hw 5 rfl (j := drN z % cnt) (vp_in_nI (by omega) (by omega)) (nI_clamp (by omega)) dX8_goStepByDraws_47 (W' := [cob t 8 [.ref ak, .ref tl, .ref tf, .ref ta, .ref tk, .ref tg, .ref tp, .ref tm, .int (nI cnt), .int (nI stp), .int (drZ (drZ z))], cin g tl 4 laws, cin g tf 6 fogs, cin g ta 6 arms, cin g tk 8 kinds, cin g tg 8 (upd faiths (drN z % cnt) (99 - (faiths (drN z % cnt)))), cin g tp 8 places, cin g tm 8 moved, ckd g ak 6 (kdf k0 k1 k2 k3 k4 k5), cob k0 4 [], cob k1 2 [], cob k2 5 [], cob k3 6 [], cob k4 9 [], cob k5 1 []]) rfl (fun H locs hw => ?_)
      refine lv_aload_n hx hb dX8_goStepByDraws_48 rfl (lv_at hl 1 rfl) ?_
      refine mcV hf hk hst hw (c_X8_goStep l g t tl tf ta tk tg tp tm laws fogs arms kinds (upd faiths (drN z % cnt) (99 - (faiths (drN z % cnt)))) places moved cnt stp (drZ (drZ z)) ak k0 k1 k2 k3 k4 k5 (by omega) (by omega) (by assumption)) (cwV 0 hts gX8_goStepByDraws_X8_goStep rfl rfl rfl hdV_X8_goStep ⟨Nat.le_of_ble_eq_true rfl, Nat.le_of_ble_eq_true rfl⟩) [0, 1, 2, 3, 4, 5, 6, 7, 8, 9, 10, 11, 12, 13, 14] rfl rfl 0 rfl rfl rfl hl.1 rfl (Nat.le_of_ble_eq_true rfl) dX8_goStepByDraws_49 ⟨Nat.zero_le _, Nat.zero_le _⟩ (W' := [cob t 8 [.ref ak, .ref tl, .ref tf, .ref ta, .ref tk, .ref tg, .ref tp, .ref tm, .int (nI cnt), .int (nI (stp + 1)), .int (drZ (drZ z))], cin g tl 4 laws, cin g tf 6 fogs, cin g ta 6 arms, cin g tk 8 kinds, cin g tg 8 (goF laws fogs arms stp kinds (upd faiths (drN z % cnt) (99 - (faiths (drN z % cnt)))) places cnt), cin g tp 8 (goP laws fogs arms stp kinds (upd faiths (drN z % cnt) (99 - (faiths (drN z % cnt)))) places cnt), cin g tm 8 (goM laws fogs arms stp kinds places moved cnt), ckd g ak 6 (kdf k0 k1 k2 k3 k4 k5), cob k0 4 [], cob k1 2 [], cob k2 5 [], cob k3 6 [], cob k4 9 [], cob k5 1 []]) rfl (fun H locs hw => ?_)
      exact re_v hf hr hlk hw (by simp only [drF, drZ2, if_neg c_1, if_neg c_2]) dX8_goStepByDraws_52
abbrev rmX8_goesBy : Room := { frames := 5, cells := 0, slots := 0, locals := 117 }
set_option maxHeartbeats 4000000 in
set_option maxRecDepth 100000 in
theorem c_X8_goesBy (l : Launch) (g : GG) (t : Nat) (tl : Nat) (tf : Nat) (ta : Nat) (tk : Nat) (tg : Nat) (tp : Nat) (tm : Nat) (laws : Nat → Int32) (fogs : Nat → Int32) (arms : Nat → Int32) (kinds : Nat → Int32) (faiths : Nat → Int32) (places : Nat → Int32) (moved : Nat → Int32) (cnt : Nat) (stp : Nat) (z : Int32) (ak : Nat) (k0 : Nat) (k1 : Nat) (k2 : Nat) (k3 : Nat) (k4 : Nat) (k5 : Nat) (q : Nat) (tv : Nat) (n : Nat) (told : Nat → Int32) (hq8 : q < 8) (hn : n < 2 ^ 20) (hsp : stp < 2 ^ 30) (hkd : isK (kinds q)) : mt l g yX8_goesBy wsX8_goesBy rmX8_goesBy [.ref t, .int (nI q), .ref tv] [cob t 8 [.ref ak, .ref tl, .ref tf, .ref ta, .ref tk, .ref tg, .ref tp, .ref tm, .int (nI cnt), .int (nI stp), .int z], cin g tl 4 laws, cin g tf 6 fogs, cin g ta 6 arms, cin g tk 8 kinds, cin g tg 8 faiths, cin g tp 8 places, cin g tm 8 moved, ckd g ak 6 (kdf k0 k1 k2 k3 k4 k5), cob k0 4 [], cob k1 2 [], cob k2 5 [], cob k3 6 [], cob k4 9 [], cob k5 1 [], cin g tv n told] (some (.int (gbR told (itP laws fogs arms (kinds q) stp (faiths q) (places q) (moved q)) n 0))) [cob t 8 [.ref ak, .ref tl, .ref tf, .ref ta, .ref tk, .ref tg, .ref tp, .ref tm, .int (nI cnt), .int (nI stp), .int z], cin g tl 4 laws, cin g tf 6 fogs, cin g ta 6 arms, cin g tk 8 kinds, cin g tg 8 (upd faiths q (itG laws fogs arms (kinds q) stp (faiths q) (places q) (moved q) (gbS told (itP laws fogs arms (kinds q) stp (faiths q) (places q) (moved q)) n 0)).1), cin g tp 8 (upd places q (itG laws fogs arms (kinds q) stp (faiths q) (places q) (moved q) (gbS told (itP laws fogs arms (kinds q) stp (faiths q) (places q) (moved q)) n 0)).2.1), cin g tm 8 (upd moved q (itG laws fogs arms (kinds q) stp (faiths q) (places q) (moved q) (gbS told (itP laws fogs arms (kinds q) stp (faiths q) (places q) (moved q)) n 0)).2.2), ckd g ak 6 (kdf k0 k1 k2 k3 k4 k5), cob k0 4 [], cob k1 2 [], cob k2 5 [], cob k3 6 [], cob k4 9 [], cob k5 1 [], cin g tv n told] := by
  refine mt.of (cc := cX8_goesBy) (nL := 4) (ret := (some .boolean)) (own := RX8) (by decide +kernel) rfl rfl (show ([t, tl, tf, ta, tk, tg, tp, tm, ak, k0, k1, k2, k3, k4, k5, tv] : List Nat) = [t, tl, tf, ta, tk, tg, tp, tm, ak, k0, k1, k2, k3, k4, k5, tv] from rfl) (Nat.le_of_ble_eq_true rfl) (fun p e s m below meth c hf hr hlk _ hk hst hw ls hl => ?_)
  have hx := hf.1
  have hb := hf.2.1
  have hts := hf.2.2.2.2
  have hl : lv_has ls 4 [(0, .ref t), (1, .int (nI q)), (2, .ref tv)] := hl
  have hinX8 : ∀ w ∈ u_ws RX8 TX8 11, w ∈ wsX8_goesBy := fun w h => List.mem_cons_of_mem _ (List.mem_append_right _ h)
  have w_0 : Cond.fieldLink RX8 50 "LightMan$Tunnel" "stepNumber" "I" ∈ wsX8_goesBy := List.mem_of_getElem? (i := 1) rfl
  have w_1 : Cond.fieldLink RX8 27 "LightMan$Tunnel" "places" "[I" ∈ wsX8_goesBy := List.mem_of_getElem? (i := 2) rfl
  refine lv_iconst (v := 0) hx hb dX8_goesBy_0 (by decide) ?_
  refine lv_istore_n (lv' := [(3, .int 0), (0, .ref t), (1, .int (nI q)), (2, .ref tv)]) hx hb dX8_goesBy_1 rfl hl (by decide) rfl (fun ls hl => ?_)
  have lp_2_0 : ∀ (fu k : Nat) (fa : Nat → Int32) (pl : Nat → Int32) (mo : Nat → Int32), k ≤ n → n + 1 ≤ k + fu → fa = upd faiths q (itG laws fogs arms (kinds q) stp (faiths q) (places q) (moved q) k).1 → pl = upd places q (itG laws fogs arms (kinds q) stp (faiths q) (places q) (moved q) k).2.1 → mo = upd moved q (itG laws fogs arms (kinds q) stp (faiths q) (places q) (moved q) k).2.2 → gbR told (itP laws fogs arms (kinds q) stp (faiths q) (places q) (moved q)) n 0 = gbR told (itP laws fogs arms (kinds q) stp (faiths q) (places q) (moved q)) (n - k) k → gbS told (itP laws fogs arms (kinds q) stp (faiths q) (places q) (moved q)) n 0 = gbS told (itP laws fogs arms (kinds q) stp (faiths q) (places q) (moved q)) (n - k) k → ∀ (H : Heap) (locs : List Loc), hv g (va_I [cob t 8 [.ref ak, .ref tl, .ref tf, .ref ta, .ref tk, .ref tg, .ref tp, .ref tm, .int (nI cnt), .int (nI stp), .int z], cin g tl 4 laws, cin g tf 6 fogs, cin g ta 6 arms, cin g tk 8 kinds, cin g tg 8 faiths, cin g tp 8 places, cin g tm 8 moved, ckd g ak 6 (kdf k0 k1 k2 k3 k4 k5), cob k0 4 [], cob k1 2 [], cob k2 5 [], cob k3 6 [], cob k4 9 [], cob k5 1 [], cin g tv n told]) s H locs [cob t 8 [.ref ak, .ref tl, .ref tf, .ref ta, .ref tk, .ref tg, .ref tp, .ref tm, .int (nI cnt), .int (nI stp), .int z], cin g tl 4 laws, cin g tf 6 fogs, cin g ta 6 arms, cin g tk 8 kinds, cin g tg 8 fa, cin g tp 8 pl, cin g tm 8 mo, ckd g ak 6 (kdf k0 k1 k2 k3 k4 k5), cob k0 4 [], cob k1 2 [], cob k2 5 [], cob k3 6 [], cob k4 9 [], cob k5 1 [], cin g tv n told] → ∀ ls : Array Slot, lv_has ls 4 [(3, .int (nI k)), (0, .ref t), (1, .int (nI q)), (2, .ref tv)] → W p l e rmX8_goesBy s m ([.ref t, .int (nI q), .ref tv] : List Value).toArray below meth c H locs 0 0 (MQ below (mtQ g [cob t 8 [.ref ak, .ref tl, .ref tf, .ref ta, .ref tk, .ref tg, .ref tp, .ref tm, .int (nI cnt), .int (nI stp), .int z], cin g tl 4 laws, cin g tf 6 fogs, cin g ta 6 arms, cin g tk 8 kinds, cin g tg 8 faiths, cin g tp 8 places, cin g tm 8 moved, ckd g ak 6 (kdf k0 k1 k2 k3 k4 k5), cob k0 4 [], cob k1 2 [], cob k2 5 [], cob k3 6 [], cob k4 9 [], cob k5 1 [], cin g tv n told] (some (.int (gbR told (itP laws fogs arms (kinds q) stp (faiths q) (places q) (moved q)) n 0))) [cob t 8 [.ref ak, .ref tl, .ref tf, .ref ta, .ref tk, .ref tg, .ref tp, .ref tm, .int (nI cnt), .int (nI stp), .int z], cin g tl 4 laws, cin g tf 6 fogs, cin g ta 6 arms, cin g tk 8 kinds, cin g tg 8 (upd faiths q (itG laws fogs arms (kinds q) stp (faiths q) (places q) (moved q) (gbS told (itP laws fogs arms (kinds q) stp (faiths q) (places q) (moved q)) n 0)).1), cin g tp 8 (upd places q (itG laws fogs arms (kinds q) stp (faiths q) (places q) (moved q) (gbS told (itP laws fogs arms (kinds q) stp (faiths q) (places q) (moved q)) n 0)).2.1), cin g tm 8 (upd moved q (itG laws fogs arms (kinds q) stp (faiths q) (places q) (moved q) (gbS told (itP laws fogs arms (kinds q) stp (faiths q) (places q) (moved q)) n 0)).2.2), ckd g ak 6 (kdf k0 k1 k2 k3 k4 k5), cob k0 4 [], cob k1 2 [], cob k2 5 [], cob k3 6 [], cob k4 9 [], cob k5 1 [], cin g tv n told]) ([.ref t, .int (nI q), .ref tv] : List Value).toArray s 0 0 (va_I [cob t 8 [.ref ak, .ref tl, .ref tf, .ref ta, .ref tk, .ref tg, .ref tp, .ref tm, .int (nI cnt), .int (nI stp), .int z], cin g tl 4 laws, cin g tf 6 fogs, cin g ta 6 arms, cin g tk 8 kinds, cin g tg 8 faiths, cin g tp 8 places, cin g tm 8 moved, ckd g ak 6 (kdf k0 k1 k2 k3 k4 k5), cob k0 4 [], cob k1 2 [], cob k2 5 [], cob k3 6 [], cob k4 9 [], cob k5 1 [], cin g tv n told])) (F0 m 2 ls []) := by
    intro fu
    induction fu with
    | zero =>
      intro k fa pl mo h1 h2
      exact absurd h2 (by omega)
    | succ fu ih_2 =>
      intro k fa pl mo hk1_2 hk2_2 efa epl emo eR eS H locs hw ls hl
      refine lv_iload_n hx hb dX8_goesBy_2 rfl (lv_at hl 0 rfl) ?_
      refine lv_aload_n hx hb dX8_goesBy_3 rfl (lv_at hl 3 rfl) ?_
      refine ral hf hk hw 15 rfl rfl dX8_goesBy_4 ?_
      refine lv_icmp_ge (tgt := 47) hx hb dX8_goesBy_5 (by decide) (fun c_2 => ?_) (fun c_2 => ?_)
      · have hkE : k = n := Nat.le_antisymm hk1_2 ((nI_leI (by omega) (by omega)).mp c_2)
        refine lv_iconst (v := 1) hx hb dX8_goesBy_47 (by decide) ?_
        have hz : n - k = 0 := by omega
        rw [hz] at eR eS
        exact re_z hf hr hlk hw (rfl) (by rw [eR]; rfl) (by rw [efa, epl, emo, eS]; rfl) dX8_goesBy_48
      · have hkE : k < n := Nat.not_le.mp (fun h => c_2 ((nI_leI (by omega) (by omega)).mpr h))
        have hm : n - k = (n - (k + 1)) + 1 := by omega
        refine lv_aload_n hx hb dX8_goesBy_8 rfl (lv_at hl 1 rfl) ?_
        refine lv_iload_n hx hb dX8_goesBy_9 rfl (lv_at hl 2 rfl) ?_
        refine lv_aload_n hx hb dX8_goesBy_10 rfl (lv_at hl 1 rfl) ?_
        refine rg hf hk hw hinX8 0 rfl rfl 9 (by decide) w_0 rfl dX8_goesBy_11 ?_
        refine lv_iload_n hx hb dX8_goesBy_14 rfl (lv_at hl 0 rfl) ?_
        refine lv_iadd hx hb dX8_goesBy_15 ?_
        refine lv_tope (y := nI (stp + k)) (nI_add _ _) ?_
        refine mcV hf hk hst hw (c_X8_advance l g t tl tf ta tk tg tp tm laws fogs arms kinds fa pl mo cnt stp z ak k0 k1 k2 k3 k4 k5 q (stp + k) (by omega) (by omega) (hkd)) (cwV 2 hts gX8_goesBy_X8_advance rfl rfl rfl hdV_X8_advance ⟨Nat.le_of_ble_eq_true rfl, Nat.le_of_ble_eq_true rfl⟩) [0, 1, 2, 3, 4, 5, 6, 7, 8, 9, 10, 11, 12, 13, 14] rfl rfl 0 rfl rfl rfl hl.1 rfl (Nat.le_of_ble_eq_true rfl) dX8_goesBy_16 ⟨Nat.zero_le _, Nat.zero_le _⟩ (W' := [cob t 8 [.ref ak, .ref tl, .ref tf, .ref ta, .ref tk, .ref tg, .ref tp, .ref tm, .int (nI cnt), .int (nI stp), .int z], cin g tl 4 laws, cin g tf 6 fogs, cin g ta 6 arms, cin g tk 8 kinds, cin g tg 8 (aG (thrF (pl q)) fa q (vF (kinds q) (fogs ((stp + k) % 6)) (arms ((stp + k) % 6)) (laws 0) (fa q) (pl q))), cin g tp 8 (aG (thrF (pl q)) pl q (vP (kinds q) (nI (stp + k)) (seesF (kinds q) (fogs ((stp + k) % 6)) (arms ((stp + k) % 6)) (laws 0) (pl q)) (laws 1) (laws 2) (vF (kinds q) (fogs ((stp + k) % 6)) (arms ((stp + k) % 6)) (laws 0) (fa q) (pl q)) (pl q))), cin g tm 8 (aG (thrF (pl q)) mo q (vM (kinds q) (fogs ((stp + k) % 6)) (arms ((stp + k) % 6)) (laws 0) (pl q) (mo q))), ckd g ak 6 (kdf k0 k1 k2 k3 k4 k5), cob k0 4 [], cob k1 2 [], cob k2 5 [], cob k3 6 [], cob k4 9 [], cob k5 1 [], cin g tv n told]) rfl (fun H locs hw => ?_)
        obtain ⟨fa2, efa2⟩ : ∃ x : Nat → Int32, x = aG (thrF (pl q)) fa q (vF (kinds q) (fogs ((stp + k) % 6)) (arms ((stp + k) % 6)) (laws 0) (fa q) (pl q)) := ⟨_, rfl⟩
        rw [← efa2] at hw
        obtain ⟨pl2, epl2⟩ : ∃ x : Nat → Int32, x = aG (thrF (pl q)) pl q (vP (kinds q) (nI (stp + k)) (seesF (kinds q) (fogs ((stp + k) % 6)) (arms ((stp + k) % 6)) (laws 0) (pl q)) (laws 1) (laws 2) (vF (kinds q) (fogs ((stp + k) % 6)) (arms ((stp + k) % 6)) (laws 0) (fa q) (pl q)) (pl q)) := ⟨_, rfl⟩
        rw [← epl2] at hw
        obtain ⟨mo2, emo2⟩ : ∃ x : Nat → Int32, x = aG (thrF (pl q)) mo q (vM (kinds q) (fogs ((stp + k) % 6)) (arms ((stp + k) % 6)) (laws 0) (pl q) (mo q)) := ⟨_, rfl⟩
        rw [← emo2] at hw
        refine lv_pop hx hb dX8_goesBy_19 rfl ?_
        have s1 := (itG_s efa epl emo)
        rw [← efa2, ← epl2, ← emo2] at s1
        have hp2 : pl2 q = (itP laws fogs arms (kinds q) stp (faiths q) (places q) (moved q)) (k + 1) := by rw [s1.2.1, pk_us]; rfl
        refine lv_aload_n hx hb dX8_goesBy_20 rfl (lv_at hl 3 rfl) ?_
        refine lv_iload_n hx hb dX8_goesBy_21 rfl (lv_at hl 0 rfl) ?_
        refine rij hf hk hw 15 rfl (j := k) (vp_in_nI (by omega) (by omega)) (nI_clamp (by omega)) dX8_goesBy_22 ?_
        refine lv_iconst (v := (-1)) hx hb dX8_goesBy_23 (by decide) ?_
        refine lv_icmp_eq (tgt := 41) hx hb dX8_goesBy_24 (by decide) (fun c_3 => ?_) (fun c_3 => ?_)
        · have hcR : gbR told (itP laws fogs arms (kinds q) stp (faiths q) (places q) (moved q)) (n - (k + 1) + 1) k = gbR told (itP laws fogs arms (kinds q) stp (faiths q) (places q) (moved q)) (n - (k + 1)) (k + 1) := if_pos c_3
          have hcS : gbS told (itP laws fogs arms (kinds q) stp (faiths q) (places q) (moved q)) (n - (k + 1) + 1) k = gbS told (itP laws fogs arms (kinds q) stp (faiths q) (places q) (moved q)) (n - (k + 1)) (k + 1) := if_pos c_3
          refine lv_iinc (v := nI (k + 1)) (lv' := [(3, .int (nI (k + 1))), (0, .ref t), (1, .int (nI q)), (2, .ref tv)]) hx hb dX8_goesBy_41 hl (k := 0) rfl (nI_1 _) (by decide) rfl (fun ls hl => ?_)
          refine lv_goto (tgt := 2) hx hb dX8_goesBy_44 (by decide) ?_
          exact ih_2 (k + 1) fa2 pl2 mo2 (by omega) (by omega) (s1.1) (s1.2.1) (s1.2.2) (by rw [eR, hm]; exact hcR) (by rw [eS, hm]; exact hcS) _ _ hw _ (lv_sub hl [0, 1, 2, 3] rfl)
        · refine lv_aload_n hx hb dX8_goesBy_27 rfl (lv_at hl 3 rfl) ?_
          refine lv_iload_n hx hb dX8_goesBy_28 rfl (lv_at hl 0 rfl) ?_
          refine rij hf hk hw 15 rfl (j := k) (vp_in_nI (by omega) (by omega)) (nI_clamp (by omega)) dX8_goesBy_29 ?_
          refine lv_aload_n hx hb dX8_goesBy_30 rfl (lv_at hl 1 rfl) ?_
          refine rg hf hk hw hinX8 0 rfl rfl 6 (by decide) w_1 rfl dX8_goesBy_31 ?_
          refine lv_iload_n hx hb dX8_goesBy_34 rfl (lv_at hl 2 rfl) ?_
          refine rij hf hk hw 6 rfl (j := q) (vp_in_nI (by omega) (by omega)) (nI_clamp (by omega)) dX8_goesBy_35 ?_
          refine lv_icmp_eq (tgt := 41) hx hb dX8_goesBy_36 (by decide) (fun c_4 => ?_) (fun c_4 => ?_)
          · have hc2 := c_4
            rw [hp2] at hc2
            have hcR : gbR told (itP laws fogs arms (kinds q) stp (faiths q) (places q) (moved q)) (n - (k + 1) + 1) k = gbR told (itP laws fogs arms (kinds q) stp (faiths q) (places q) (moved q)) (n - (k + 1)) (k + 1) := (if_neg c_3).trans (if_pos hc2)
            have hcS : gbS told (itP laws fogs arms (kinds q) stp (faiths q) (places q) (moved q)) (n - (k + 1) + 1) k = gbS told (itP laws fogs arms (kinds q) stp (faiths q) (places q) (moved q)) (n - (k + 1)) (k + 1) := (if_neg c_3).trans (if_pos hc2)
            refine lv_iinc (v := nI (k + 1)) (lv' := [(3, .int (nI (k + 1))), (0, .ref t), (1, .int (nI q)), (2, .ref tv)]) hx hb dX8_goesBy_41 hl (k := 0) rfl (nI_1 _) (by decide) rfl (fun ls hl => ?_)
            refine lv_goto (tgt := 2) hx hb dX8_goesBy_44 (by decide) ?_
            exact ih_2 (k + 1) fa2 pl2 mo2 (by omega) (by omega) (s1.1) (s1.2.1) (s1.2.2) (by rw [eR, hm]; exact hcR) (by rw [eS, hm]; exact hcS) _ _ hw _ (lv_sub hl [0, 1, 2, 3] rfl)
          · have hc2 := c_4
            rw [hp2] at hc2
            refine lv_iconst (v := 0) hx hb dX8_goesBy_39 (by decide) ?_
            exact re_z hf hr hlk hw (rfl) (by rw [eR, hm]; simp only [gbR, if_neg c_3, if_neg hc2]) (by rw [s1.1, s1.2.1, s1.2.2, eS, hm]; simp only [gbS, if_neg c_3, if_neg hc2]) dX8_goesBy_40
  exact lp_2_0 (n + 1) 0 faiths places moved (by omega) (by omega) (upd_self _ _) (upd_self _ _) (upd_self _ _) (rfl) (rfl) _ _ hw _ (lv_sub hl [0, 1, 2, 3] rfl)
theorem hdV_X8_throughSet : yX8_throughSet.cls = RX8 ∧ yX8_throughSet.cls ≠ "java/lang/invoke/MethodHandle" ∧ yX8_throughSet.cls ≠ "java/lang/invoke/VarHandle" ∧ (parseMethodDescriptor yX8_throughSet.desc).map (fun d => d.parameters.length) = some 0 := by decide +kernel
def f_X8_partOfRow (faiths : Nat → Int32) (places : Nat → Int32) (cnt : Nat) (k : Nat) (part : Int32) : Int32 := if part = 0 then (places k) else (if part = 1 then (faiths k) else (setTo (thrs places) (cnt)))
abbrev rmX8_partOfRow : Room := { frames := 2, cells := 0, slots := 0, locals := 43 }
set_option maxHeartbeats 4000000 in
set_option maxRecDepth 100000 in
theorem c_X8_partOfRow (l : Launch) (g : GG) (t : Nat) (tl : Nat) (tf : Nat) (ta : Nat) (tk : Nat) (tg : Nat) (tp : Nat) (tm : Nat) (faiths : Nat → Int32) (places : Nat → Int32) (cnt : Nat) (stp : Nat) (z : Int32) (ak : Nat) (k : Nat) (part : Int32) (hk8 : k < 8) (hc8 : cnt ≤ 8) : mt l g yX8_partOfRow wsX8_partOfRow rmX8_partOfRow [.ref t, .int (nI k), .int part] [cob t 8 [.ref ak, .ref tl, .ref tf, .ref ta, .ref tk, .ref tg, .ref tp, .ref tm, .int (nI cnt), .int (nI stp), .int z], cin g tg 8 faiths, cin g tp 8 places] (some (.int (f_X8_partOfRow faiths places cnt k part))) [cob t 8 [.ref ak, .ref tl, .ref tf, .ref ta, .ref tk, .ref tg, .ref tp, .ref tm, .int (nI cnt), .int (nI stp), .int z], cin g tg 8 faiths, cin g tp 8 places] := by
  refine mt.of (cc := cX8_partOfRow) (nL := 3) (ret := (some .int)) (own := RX8) (by decide +kernel) rfl rfl (show ([t, tg, tp] : List Nat) = [t, tg, tp] from rfl) (Nat.le_of_ble_eq_true rfl) (fun p e s m below meth c hf hr hlk _ hk hst hw ls hl => ?_)
  have hx := hf.1
  have hb := hf.2.1
  have hts := hf.2.2.2.2
  have hl : lv_has ls 3 [(0, .ref t), (1, .int (nI k)), (2, .int part)] := hl
  have hinX8 : ∀ w ∈ u_ws RX8 TX8 11, w ∈ wsX8_partOfRow := fun w h => List.mem_cons_of_mem _ (List.mem_append_right _ h)
  have w_0 : Cond.fieldLink RX8 27 "LightMan$Tunnel" "places" "[I" ∈ wsX8_partOfRow := List.mem_of_getElem? (i := 1) rfl
  have w_1 : Cond.fieldLink RX8 24 "LightMan$Tunnel" "faiths" "[I" ∈ wsX8_partOfRow := List.mem_of_getElem? (i := 2) rfl
  refine lv_iload_n hx hb dX8_partOfRow_0 rfl (lv_at hl 2 rfl) ?_
  by_cases c_1 : part = 0
  · refine lv_lookup (off := 27) (tgt := 28) hx hb dX8_partOfRow_1 (by decide) (by rw [c_1]; decide) (by decide) ?_
    refine lv_aload_n hx hb dX8_partOfRow_28 rfl (lv_at hl 0 rfl) ?_
    refine rg hf hk hw hinX8 0 rfl rfl 6 (by decide) w_0 rfl dX8_partOfRow_29 ?_
    refine lv_iload_n hx hb dX8_partOfRow_32 rfl (lv_at hl 1 rfl) ?_
    refine rij hf hk hw 2 rfl (j := k) (vp_in_nI (by omega) (by omega)) (nI_clamp (by omega)) dX8_partOfRow_33 ?_
    exact re_i hf hr hlk hw (by simp only [f_X8_partOfRow, if_pos c_1]) (rfl) dX8_partOfRow_34
  by_cases c_2 : part = 1
  · refine lv_lookup (off := 34) (tgt := 35) hx hb dX8_partOfRow_1 (by decide) (by rw [c_2]; decide) (by decide) ?_
    refine lv_aload_n hx hb dX8_partOfRow_35 rfl (lv_at hl 0 rfl) ?_
    refine rg hf hk hw hinX8 0 rfl rfl 5 (by decide) w_1 rfl dX8_partOfRow_36 ?_
    refine lv_iload_n hx hb dX8_partOfRow_39 rfl (lv_at hl 1 rfl) ?_
    refine rij hf hk hw 1 rfl (j := k) (vp_in_nI (by omega) (by omega)) (nI_clamp (by omega)) dX8_partOfRow_40 ?_
    exact re_i hf hr hlk hw (by simp only [f_X8_partOfRow, if_neg c_1, if_pos c_2]) (rfl) dX8_partOfRow_41
  refine lv_lookup (off := 41) (tgt := 42) hx hb dX8_partOfRow_1 (by decide) ((lv_osw c_1 (by decide)).trans ((lv_osw c_2 (by decide)).trans (rfl))) (by decide) ?_
  refine lv_aload_n hx hb dX8_partOfRow_42 rfl (lv_at hl 0 rfl) ?_
  refine mcV hf hk hst hw (c_X8_throughSet l g t tl tf ta tk tg tp tm places cnt stp z ak (by omega)) (cwV 0 hts gX8_partOfRow_X8_throughSet rfl rfl rfl hdV_X8_throughSet ⟨Nat.le_of_ble_eq_true rfl, Nat.le_of_ble_eq_true rfl⟩) [0, 2] rfl rfl 0 rfl rfl rfl hl.1 rfl (Nat.le_of_ble_eq_true rfl) dX8_partOfRow_43 ⟨Nat.zero_le _, Nat.zero_le _⟩ (W' := [cob t 8 [.ref ak, .ref tl, .ref tf, .ref ta, .ref tk, .ref tg, .ref tp, .ref tm, .int (nI cnt), .int (nI stp), .int z], cin g tg 8 faiths, cin g tp 8 places]) rfl (fun H locs hw => ?_)
  exact re_i hf hr hlk hw (by simp only [f_X8_partOfRow, if_neg c_1, if_neg c_2]) (rfl) dX8_partOfRow_46
abbrev rmX8_clear : Room := { frames := 0, cells := 0, slots := 0, locals := 0 }
set_option maxHeartbeats 4000000 in
set_option maxRecDepth 100000 in
theorem c_X8_clear (l : Launch) (g : GG) (t : Nat) (tl : Nat) (tf : Nat) (ta : Nat) (tk : Nat) (tg : Nat) (tp : Nat) (tm : Nat) (laws : Nat → Int32) (fogs : Nat → Int32) (arms : Nat → Int32) (cnt : Nat) (stp : Nat) (z : Int32) (ak : Nat) : mt l g yX8_clear wsX8_clear rmX8_clear [.ref t] [cob t 8 [.ref ak, .ref tl, .ref tf, .ref ta, .ref tk, .ref tg, .ref tp, .ref tm, .int (nI cnt), .int (nI stp), .int z], cin g tl 4 laws, cin g tf 6 fogs, cin g ta 6 arms] none [cob t 8 [.ref ak, .ref tl, .ref tf, .ref ta, .ref tk, .ref tg, .ref tp, .ref tm, .int 0, .int 0, .int z], cin g tl 4 tq_first, cin g tf 6 (fun _ => 2), cin g ta 6 (fun _ => 4)] := by
  refine mt.of (cc := cX8_clear) (nL := 2) (ret := none) (own := RX8) (by decide +kernel) rfl rfl (show ([t, tl, tf, ta] : List Nat) = [t, tl, tf, ta] from rfl) (Nat.le_of_ble_eq_true rfl) (fun p e s m below meth c hf hr hlk _ hk hst hw ls hl => ?_)
  have hx := hf.1
  have hb := hf.2.1
  have hts := hf.2.2.2.2
  have hl : lv_has ls 2 [(0, .ref t)] := hl
  have hinX8 : ∀ w ∈ u_ws RX8 TX8 11, w ∈ wsX8_clear := fun w h => List.mem_cons_of_mem _ (List.mem_append_right _ h)
  have w_0 : Cond.fieldLink RX8 47 "LightMan$Tunnel" "count" "I" ∈ wsX8_clear := List.mem_of_getElem? (i := 4) rfl
  have w_1 : Cond.fieldLink RX8 50 "LightMan$Tunnel" "stepNumber" "I" ∈ wsX8_clear := List.mem_of_getElem? (i := 5) rfl
  have w_2 : Cond.fieldLink RX8 15 "LightMan$Tunnel" "fogs" "[I" ∈ wsX8_clear := List.mem_of_getElem? (i := 2) rfl
  have w_3 : Cond.fieldLink RX8 18 "LightMan$Tunnel" "arms" "[I" ∈ wsX8_clear := List.mem_of_getElem? (i := 3) rfl
  have w_4 : Cond.fieldLink RX8 9 "LightMan$Tunnel" "laws" "[I" ∈ wsX8_clear := List.mem_of_getElem? (i := 1) rfl
  refine lv_iconst (v := 0) hx hb dX8_clear_0 (by decide) ?_
  refine lv_istore_n (lv' := [(1, .int 0), (0, .ref t)]) hx hb dX8_clear_1 rfl hl (by decide) rfl (fun ls hl => ?_)
  have lp_2_0 : ∀ (fu k : Nat) (v1 : Nat → Int32), k ≤ 4 → 4 + 1 ≤ k + fu → v1 = cpT laws tq_first k → ∀ (H : Heap) (locs : List Loc), hv g (va_I [cob t 8 [.ref ak, .ref tl, .ref tf, .ref ta, .ref tk, .ref tg, .ref tp, .ref tm, .int (nI cnt), .int (nI stp), .int z], cin g tl 4 laws, cin g tf 6 fogs, cin g ta 6 arms]) s H locs [cob t 8 [.ref ak, .ref tl, .ref tf, .ref ta, .ref tk, .ref tg, .ref tp, .ref tm, .int (nI cnt), .int (nI stp), .int z], cin g tl 4 v1, cin g tf 6 fogs, cin g ta 6 arms] → ∀ ls : Array Slot, lv_has ls 2 [(1, .int (nI k)), (0, .ref t)] → W p l e rmX8_clear s m ([.ref t] : List Value).toArray below meth c H locs 0 0 (MQ below (mtQ g [cob t 8 [.ref ak, .ref tl, .ref tf, .ref ta, .ref tk, .ref tg, .ref tp, .ref tm, .int (nI cnt), .int (nI stp), .int z], cin g tl 4 laws, cin g tf 6 fogs, cin g ta 6 arms] none [cob t 8 [.ref ak, .ref tl, .ref tf, .ref ta, .ref tk, .ref tg, .ref tp, .ref tm, .int 0, .int 0, .int z], cin g tl 4 tq_first, cin g tf 6 (fun _ => 2), cin g ta 6 (fun _ => 4)]) ([.ref t] : List Value).toArray s 0 0 (va_I [cob t 8 [.ref ak, .ref tl, .ref tf, .ref ta, .ref tk, .ref tg, .ref tp, .ref tm, .int (nI cnt), .int (nI stp), .int z], cin g tl 4 laws, cin g tf 6 fogs, cin g ta 6 arms])) (F0 m 2 ls []) := by
    intro fu
    induction fu with
    | zero =>
      intro k v1 h1 h2
      exact absurd h2 (by omega)
    | succ fu ih_2 =>
      intro k v1 hk1_2 hk2_2 e1 H locs hw ls hl
      refine lv_iload_n hx hb dX8_clear_2 rfl (lv_at hl 0 rfl) ?_
      refine lv_iconst (v := 4) hx hb dX8_clear_3 (by decide) ?_
      refine lv_icmp_ge (tgt := 24) hx hb dX8_clear_4 (by decide) (fun c_2 => ?_) (fun c_2 => ?_)
      · have hkE : k = 4 := Nat.le_antisymm hk1_2 ((nI_leI (a := 4) (by omega) (by omega)).mp c_2)
        rw [hkE] at e1
        refine lv_iconst (v := 0) hx hb dX8_clear_24 (by decide) ?_
        refine lv_istore_n (lv' := [(1, .int 0), (0, .ref t)]) hx hb dX8_clear_25 rfl hl (by decide) rfl (fun ls hl => ?_)
        have lp_26_2 : ∀ (fu j : Nat) (v2 : Nat → Int32) (v3 : Nat → Int32), j ≤ 6 → 6 + 1 ≤ j + fu → v2 = fill fogs 2 j → v3 = fill arms 4 j → ∀ (H : Heap) (locs : List Loc), hv g (va_I [cob t 8 [.ref ak, .ref tl, .ref tf, .ref ta, .ref tk, .ref tg, .ref tp, .ref tm, .int (nI cnt), .int (nI stp), .int z], cin g tl 4 laws, cin g tf 6 fogs, cin g ta 6 arms]) s H locs [cob t 8 [.ref ak, .ref tl, .ref tf, .ref ta, .ref tk, .ref tg, .ref tp, .ref tm, .int (nI cnt), .int (nI stp), .int z], cin g tl 4 v1, cin g tf 6 v2, cin g ta 6 v3] → ∀ ls : Array Slot, lv_has ls 2 [(1, .int (nI j)), (0, .ref t)] → W p l e rmX8_clear s m ([.ref t] : List Value).toArray below meth c H locs 0 0 (MQ below (mtQ g [cob t 8 [.ref ak, .ref tl, .ref tf, .ref ta, .ref tk, .ref tg, .ref tp, .ref tm, .int (nI cnt), .int (nI stp), .int z], cin g tl 4 laws, cin g tf 6 fogs, cin g ta 6 arms] none [cob t 8 [.ref ak, .ref tl, .ref tf, .ref ta, .ref tk, .ref tg, .ref tp, .ref tm, .int 0, .int 0, .int z], cin g tl 4 tq_first, cin g tf 6 (fun _ => 2), cin g ta 6 (fun _ => 4)]) ([.ref t] : List Value).toArray s 0 0 (va_I [cob t 8 [.ref ak, .ref tl, .ref tf, .ref ta, .ref tk, .ref tg, .ref tp, .ref tm, .int (nI cnt), .int (nI stp), .int z], cin g tl 4 laws, cin g tf 6 fogs, cin g ta 6 arms])) (F0 m 26 ls []) := by
          intro fu
          induction fu with
          | zero =>
            intro j v2 v3 h1 h2
            exact absurd h2 (by omega)
          | succ fu ih_26 =>
            intro j v2 v3 hk1_26 hk2_26 e2 e3 H locs hw ls hl
            refine lv_iload_n hx hb dX8_clear_26 rfl (lv_at hl 0 rfl) ?_
            refine lv_bipush (v := 6) hx hb dX8_clear_27 (by decide) ?_
            refine lv_icmp_ge (tgt := 52) hx hb dX8_clear_29 (by decide) (fun c_4 => ?_) (fun c_4 => ?_)
            · have hjE : j = 6 := Nat.le_antisymm hk1_26 ((nI_leI (a := 6) (by omega) (by omega)).mp c_4)
              rw [hjE] at e2 e3
              refine lv_aload_n hx hb dX8_clear_52 rfl (lv_at hl 1 rfl) ?_
              refine lv_iconst (v := 0) hx hb dX8_clear_53 (by decide) ?_
              refine rp hf hk hw hinX8 tyX8 tyX8_ok nmX8 0 rfl rfl 8 (by decide) w_0 rfl (rfl) rfl (Nat.le_of_ble_eq_true rfl) dX8_clear_54 (W' := [cob t 8 [.ref ak, .ref tl, .ref tf, .ref ta, .ref tk, .ref tg, .ref tp, .ref tm, .int 0, .int (nI stp), .int z], cin g tl 4 v1, cin g tf 6 v2, cin g ta 6 v3]) rfl (fun H locs hw => ?_)
              refine lv_aload_n hx hb dX8_clear_57 rfl (lv_at hl 1 rfl) ?_
              refine lv_iconst (v := 0) hx hb dX8_clear_58 (by decide) ?_
              refine rp hf hk hw hinX8 tyX8 tyX8_ok nmX8 0 rfl rfl 9 (by decide) w_1 rfl (rfl) rfl (Nat.le_of_ble_eq_true rfl) dX8_clear_59 (W' := [cob t 8 [.ref ak, .ref tl, .ref tf, .ref ta, .ref tk, .ref tg, .ref tp, .ref tm, .int 0, .int 0, .int z], cin g tl 4 v1, cin g tf 6 v2, cin g ta 6 v3]) rfl (fun H locs hw => ?_)
              have hw := hv_ext hw 1 (f' := tq_first) rfl (by rw [e1]; exact cpT_all) (W' := [cob t 8 [.ref ak, .ref tl, .ref tf, .ref ta, .ref tk, .ref tg, .ref tp, .ref tm, .int 0, .int 0, .int z], cin g tl 4 tq_first, cin g tf 6 v2, cin g ta 6 v3]) rfl
              have hw := hv_ext hw 2 (f' := fun _ => 2) rfl (by rw [e2]; intro j hj; simp [fill, hj]) (W' := [cob t 8 [.ref ak, .ref tl, .ref tf, .ref ta, .ref tk, .ref tg, .ref tp, .ref tm, .int 0, .int 0, .int z], cin g tl 4 tq_first, cin g tf 6 (fun _ => 2), cin g ta 6 v3]) rfl
              have hw := hv_ext hw 3 (f' := fun _ => 4) rfl (by rw [e3]; intro j hj; simp [fill, hj]) (W' := [cob t 8 [.ref ak, .ref tl, .ref tf, .ref ta, .ref tk, .ref tg, .ref tp, .ref tm, .int 0, .int 0, .int z], cin g tl 4 tq_first, cin g tf 6 (fun _ => 2), cin g ta 6 (fun _ => 4)]) rfl
              exact re_v hf hr hlk hw (rfl) dX8_clear_62
            · have hjE : j < 6 := Nat.not_le.mp (fun h => c_4 ((nI_leI (a := 6) (by omega) (by omega)).mpr h))
              refine lv_aload_n hx hb dX8_clear_32 rfl (lv_at hl 1 rfl) ?_
              refine rg hf hk hw hinX8 0 rfl rfl 2 (by decide) w_2 rfl dX8_clear_33 ?_
              refine lv_iload_n hx hb dX8_clear_36 rfl (lv_at hl 0 rfl) ?_
              refine lv_iconst (v := 2) hx hb dX8_clear_37 (by decide) ?_
              refine rsj hf hk hw 2 rfl (j := j) (vp_in_nI (by omega) (by omega)) (nI_clamp (by omega)) dX8_clear_38 (W' := [cob t 8 [.ref ak, .ref tl, .ref tf, .ref ta, .ref tk, .ref tg, .ref tp, .ref tm, .int (nI cnt), .int (nI stp), .int z], cin g tl 4 v1, cin g tf 6 (upd v2 j 2), cin g ta 6 v3]) rfl (fun H locs hw => ?_)
              refine lv_aload_n hx hb dX8_clear_39 rfl (lv_at hl 1 rfl) ?_
              refine rg hf hk hw hinX8 0 rfl rfl 3 (by decide) w_3 rfl dX8_clear_40 ?_
              refine lv_iload_n hx hb dX8_clear_43 rfl (lv_at hl 0 rfl) ?_
              refine lv_iconst (v := 4) hx hb dX8_clear_44 (by decide) ?_
              refine rsj hf hk hw 3 rfl (j := j) (vp_in_nI (by omega) (by omega)) (nI_clamp (by omega)) dX8_clear_45 (W' := [cob t 8 [.ref ak, .ref tl, .ref tf, .ref ta, .ref tk, .ref tg, .ref tp, .ref tm, .int (nI cnt), .int (nI stp), .int z], cin g tl 4 v1, cin g tf 6 (upd v2 j 2), cin g ta 6 (upd v3 j 4)]) rfl (fun H locs hw => ?_)
              refine lv_iinc (v := nI (j + 1)) (lv' := [(1, .int (nI (j + 1))), (0, .ref t)]) hx hb dX8_clear_46 hl (k := 0) rfl (nI_1 _) (by decide) rfl (fun ls hl => ?_)
              refine lv_goto (tgt := 26) hx hb dX8_clear_49 (by decide) ?_
              exact ih_26 (j + 1) (upd v2 j 2) (upd v3 j 4) (by omega) (by omega) (fill_s e2) (fill_s e3) _ _ hw _ (lv_sub hl [0, 1] rfl)
        exact lp_26_2 (6 + 1) 0 fogs arms (by omega) (by omega) (fill_0 _ _) (fill_0 _ _) _ _ hw _ (lv_sub hl [0, 1] rfl)
      · have hkE : k < 4 := Nat.not_le.mp (fun h => c_2 ((nI_leI (a := 4) (by omega) (by omega)).mpr h))
        refine lv_aload_n hx hb dX8_clear_7 rfl (lv_at hl 1 rfl) ?_
        refine rg hf hk hw hinX8 0 rfl rfl 1 (by decide) w_4 rfl dX8_clear_8 ?_
        refine lv_iload_n hx hb dX8_clear_11 rfl (lv_at hl 0 rfl) ?_
        refine va_getsN hx hb hst.2.1.1 hw.2.2 hf.2.2.2.1 (va_Nw.use rfl hk.2.2.1.2) (fun _ h => h) dX8_clear_12 ?_
        refine lv_iload_n hx hb dX8_clear_15 rfl (lv_at hl 0 rfl) ?_
        refine va_ti hx hb hst.2.1.2 hw.2.2 (v := .int (tq_first k)) (vp_in_nI (by omega) (by omega)) (congrArg (fun j => Value.int (tq_first j)) (nI_clamp (by omega))) dX8_clear_16 ?_
        refine rsj hf hk hw 1 rfl (j := k) (vp_in_nI (by omega) (by omega)) (nI_clamp (by omega)) dX8_clear_17 (W' := [cob t 8 [.ref ak, .ref tl, .ref tf, .ref ta, .ref tk, .ref tg, .ref tp, .ref tm, .int (nI cnt), .int (nI stp), .int z], cin g tl 4 (upd v1 k (tq_first k)), cin g tf 6 fogs, cin g ta 6 arms]) rfl (fun H locs hw => ?_)
        refine lv_iinc (v := nI (k + 1)) (lv' := [(1, .int (nI (k + 1))), (0, .ref t)]) hx hb dX8_clear_18 hl (k := 0) rfl (nI_1 _) (by decide) rfl (fun ls hl => ?_)
        refine lv_goto (tgt := 2) hx hb dX8_clear_21 (by decide) ?_
        exact ih_2 (k + 1) (upd v1 k (tq_first k)) (by omega) (by omega) (cpT_s e1) _ _ hw _ (lv_sub hl [0, 1] rfl)
  exact lp_2_0 (4 + 1) 0 laws (by omega) (by omega) (cpT_0 _ _) _ _ hw _ (lv_sub hl [0, 1] rfl)
